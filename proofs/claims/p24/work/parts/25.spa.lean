/-! ===== arraycopy as a step of the checker ===== -/
theorem fresh_cpI {sh : List mE} {I : Nat → Nat → Int32} {L : Nat → Nat → Int64} {R : Nat → Nat → Option Nat} {q0 q1 sp dp n : Nat} {e : mE} (h : fresh (sh, I, L, R)) (hq : sh[q1]? = some e) : fresh (sh, cpI I q0 q1 sp dp n, L, R) := by
  intro a ha k
  have hlt : q1 < sh.length := (List.getElem?_eq_some_iff.mp hq).1
  have hne : ¬ a = q1 := by dsimp only at ha; omega
  have := h a ha k
  refine ⟨?_, this.2⟩
  show (if a = q1 then _ else _) = _
  rw [if_neg hne]
  exact this.1
/-- where arraycopy stands -/
def acAt (j pc : Nat) : Prop := ∃ (M : mMt) (index : Nat), mt j = some M ∧ decode M.2.2.1 pc = .ok (.invokestatic index, 3) ∧ Cond.methodLink (mcn M.1) index arraycopyName ∈ lw_tbk
theorem XF.acp {dd : Nat} {Q : Option Value → mW → Prop} {j pc q0 q1 n0 n1 : Nat} {ls : mL} {r : List Value} {fs : List mFr} {sh : List mE} {I : Nat → Nat → Int32} {L : Nat → Nat → Int64} {Rr : Nat → Nat → Option Nat} {sp dp n : Int32} (hat : acAt j pc) (h0 : sh[q0]? = some (.inl (.int, n0))) (h1 : sh[q1]? = some (.inl (.int, n1))) (a1 : 0 ≤ sp.toInt) (a2 : 0 ≤ dp.toInt) (a3 : 0 ≤ n.toInt) (a4 : sp.toInt + n.toInt ≤ n0) (a5 : dp.toInt + n.toInt ≤ n1) (hcat : (r.map fun v => v.category).sum ≤ 8) (K : XF none dd 0 0 Q (j, pc + 3, ls, r) fs (sh, cpI I q0 q1 sp.toNatClampNeg dp.toNatClampNeg n.toNatClampNeg, L, Rr)) : XF none dd 0 0 Q (j, pc, ls, .int n :: .int dp :: .ref q1 :: .int sp :: .ref q0 :: r) fs (sh, I, L, Rr) := by
  obtain ⟨M, index, hM, hd, hlk⟩ := hat
  cases fs with
  | nil =>
    unfold XF at K ⊢
    intro hf M' hM'
    cases hM.symm.trans hM'
    exact XW.acp hM hd hlk h0 h1 a1 a2 a3 a4 a5 hcat (K (fresh_cpI hf h1) M hM)
  | cons f fs =>
    unfold XF at K ⊢
    intro hf M' hM'
    cases hM.symm.trans hM'
    exact XW.acp hM hd hlk h0 h1 a1 a2 a3 a4 a5 hcat (K (fresh_cpI hf h1) M hM)
theorem cpI_succ {I : Nat → Nat → Int32} {q0 q1 sp dp n : Nat} : cpI I q0 q1 sp dp (n + 1) = up2 (cpI I q0 q1 sp dp n) q1 (dp + n) (I q0 (sp + n)) := by
  funext i j
  unfold up2 cpI va_cpy
  by_cases hi : i = q1
  · rw [if_pos hi, if_pos hi]
    by_cases hj : j = dp + n
    · rw [if_pos hj, if_pos (by omega), hj]
      congr 1
      omega
    · rw [if_neg hj]
      rw [if_pos hi]
      by_cases hk : dp ≤ j ∧ j < dp + n
      · rw [if_pos hk, if_pos (by omega)]
      · rw [if_neg hk, if_neg (by omega)]
  · rw [if_neg hi, if_neg hi, if_neg hi]
theorem cpI_zero {I : Nat → Nat → Int32} {q0 q1 sp dp : Nat} : cpI I q0 q1 sp dp 0 = I := by
  funext i j
  unfold cpI va_cpy
  split
  · next h => rw [if_neg (by omega), h]
  · rfl
theorem E_cpI {FE : Nat → Bool ⊕ List Nat} {E : mW → Prop} (hE : EOK FE E) {sh : List mE} {I : Nat → Nat → Int32} {L : Nat → Nat → Int64} {R : Nat → Nat → Option Nat} {q0 q1 sp dp : Nat} (hf : ∀ k, feP (FE q1) k = false) (h : E (sh, I, L, R)) : ∀ n, E (sh, cpI I q0 q1 sp dp n, L, R)
  | 0 => by rw [cpI_zero]; exact h
  | n + 1 => by rw [cpI_succ]; exact hE.1 _ _ _ _ _ _ _ (hf _) (E_cpI hE hf h n)
def rsb (T : aT) (q0 q1 : Nat) : Bool := match T.2.2.1 q1 with
  | .inl r1 => (ile r1.1 lo32 && ile hi32 r1.2) || (match T.2.2.1 q0 with
    | .inl r0 => ile r1.1 r0.1 && ile r0.2 r1.2
    | .inr _ => false)
  | .inr _ => false
theorem rsb_ok {T : aT} {q0 q1 : Nat} (h : rsb T q0 q1 = true) {I : Nat → Nat → Int32} (hr : ∀ q k, (rg T q k).1 ≤ (I q k).toInt ∧ (I q k).toInt ≤ (rg T q k).2) (j k : Nat) : (rg T q1 k).1 ≤ (I q0 j).toInt ∧ (I q0 j).toInt ≤ (rg T q1 k).2 := by
  have h0 := hr q0 j
  have hb := i32b (I q0 j)
  unfold rsb at h
  unfold rg at h0 ⊢
  split at h
  · next r1 e1 =>
    rw [e1]
    dsimp only
    rw [Bool.or_eq_true] at h
    rcases h with h | h
    · rw [Bool.and_eq_true, ile_iff, ile_iff] at h
      omega
    · split at h
      · next r0 e0 =>
        rw [e0] at h0
        dsimp only at h0
        rw [Bool.and_eq_true, ile_iff, ile_iff] at h
        omega
      · cases h
  · cases h
def feW (f : Bool ⊕ List Nat) : Bool := match f with
  | .inl b => !b
  | .inr _ => false
theorem feW_ok {f : Bool ⊕ List Nat} (h : feW f = true) (k : Nat) : feP f k = false := by
  unfold feW at h
  unfold feP
  split at h
  · rw [Bool.not_eq_true'] at h; exact h
  · cases h
/-- the step: at these places -/
def spA (tab : List (Nat × Nat)) (T : aT) (md : aM) (A : aS) : Option (List aS) := match A with
  | ((j, pc, ls, st), fs, B, P, F, G) => bif tab.any (fun e => Nat.beq e.1 j && Nat.beq e.2 pc) then (match st with
    | .inl n :: .inl dp :: .inr (some q1) :: .inl sp :: .inr (some q0) :: r => match T.1 q0, T.1 q1 with
      | some (.inl (.int, n0)), some (.inl (.int, n1)) => bif prv B F n && (prv B F dp && (prv B F sp && (prv B F (nsb (nK (n0 : Int)) (nad sp n)) && (prv B F (nsb (nK (n1 : Int)) (nad dp n)) && (hasA md q1 && (feW (T.2.2.2.1 q1) && (rsb T q0 q1 && Nat.ble (catS r) 8))))))) then some [((j, pc + 3, ls, r), fs, B, P.filter (fun e => !(Nat.beq e.1.1 q1)), F, G)] else none
      | _, _ => none
    | _ => none) else none
theorem spA_ok {T : aT} {E : mW → Prop} {md : aM} {Z : aZ} {av : List Value} {I0 : Nat → Nat → Int32} {dd : Nat} (hE : EOK T.2.2.2.1 E) {tab : List (Nat × Nat)} (htab : ∀ e ∈ tab, acAt e.1 e.2) {A : aS} {As : List aS} (h : spA tab T md A = some As) : Snd T E md Z av I0 dd A As := by
  obtain ⟨⟨j, pc, ls, st⟩, fs, B, P, F, G⟩ := A
  intro rho C hS K
  obtain ⟨⟨j', pc', l, s⟩, gs, ⟨sh, I, L, R⟩⟩ := C
  obtain ⟨⟨e1, e2, hl, hs⟩, hfs, hB, hP, hF, hG, hw, hI⟩ := hS
  dsimp only at e1 e2 hl hs hfs hB hP hF hG hI K ⊢
  subst e1 e2
  unfold spA at h
  dsimp only at h
  obtain ⟨hb, h⟩ := bif_o h
  obtain ⟨e, he, hj⟩ := List.any_eq_true.mp hb
  rw [Bool.and_eq_true] at hj
  have hat : acAt j pc := by
    have := htab e he
    rw [Nat.eq_of_beq_eq_true hj.1, Nat.eq_of_beq_eq_true hj.2] at this
    exact this
  split at h
  · next n dp q1 sp q0 r _ =>
    match s, hs with
    | v1 :: v2 :: v3 :: v4 :: v5 :: s, hs =>
      obtain ⟨hn, ni, rfl, en⟩ := hs.1
      obtain ⟨hdp, di, rfl, ed⟩ := hs.2.1
      obtain rfl : v3 = .ref q1 := hs.2.2.1
      obtain ⟨hsp, si, rfl, es⟩ := hs.2.2.2.1
      obtain rfl : v5 = .ref q0 := hs.2.2.2.2.1
      have hr := hs.2.2.2.2.2
      split at h
      · next n0 n1 t0 t1 =>
        have h0 := hw.1 q0 _ t0
        have h1 := hw.1 q1 _ t1
        obtain ⟨g, h⟩ := bif_o h
        cases h
        simp only [Bool.and_eq_true] at g
        obtain ⟨g1, g2, g3, g4, g5, g6, g7, g8, g9⟩ := g
        have p1 := prv_ok hB hF hn g1
        have p2 := prv_ok hB hF hdp g2
        have p3 := prv_ok hB hF hsp g3
        have p4 := prv_ok hB hF (nb_sb nb_K (nb_ad hsp hn)) g4
        have p5 := prv_ok hB hF (nb_sb nb_K (nb_ad hdp hn)) g5
        rw [fvl_sb, fvl_K, fvl_ad] at p4 p5
        refine XF.acp hat h0 h1 (by omega) (by omega) (by omega) (by omega) (by omega) (by rw [hr.cats]; exact Nat.le_of_ble_eq_true g9) ?_
        refine K _ (List.mem_singleton_self _) rho ((j, pc + 3, l, s), gs, (sh, cpI I q0 q1 si.toNatClampNeg di.toNatClampNeg ni.toNatClampNeg, L, R)) (agr.refl _ _) ⟨⟨rfl, rfl, hl, hr⟩, hfs, hB, ?_, hF, hG, ⟨hw.1, hw.2.1, ?_, E_cpI hE (feW_ok g7) hw.2.2.2 _⟩, ?_⟩
        · intro f hf
          obtain ⟨f1, f2⟩ := List.mem_filter.mp hf
          obtain ⟨b1, b2, b3, b4⟩ := hP f f1
          refine ⟨b1, b2, b3, ?_⟩
          have hne : ¬ f.1.1 = q1 := fun k => by rw [k, Nat.beq_refl] at f2; cases f2
          show (cpI I q0 q1 _ _ _ f.1.1 _).toInt = _
          unfold cpI
          rw [if_neg hne]
          exact b4
        · intro q k
          show (rg T q k).1 ≤ (cpI I q0 q1 _ _ _ q k).toInt ∧ (cpI I q0 q1 _ _ _ q k).toInt ≤ (rg T q k).2
          unfold cpI
          split
          · next hq =>
            rw [hq]
            unfold va_cpy
            split
            · exact rsb_ok g8 hw.2.2.1 _ _
            · exact hw.2.2.1 q1 k
          · exact hw.2.2.1 q k
        · intro q k hq
          show cpI I q0 q1 _ _ _ q k = _
          unfold cpI
          split
          · next e => rw [e, inm_of_hasA g6] at hq; cases hq
          · exact hI q k hq
      · cases h
  · cases h
