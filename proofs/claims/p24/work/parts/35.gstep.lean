/-! ===== a store together with numbers of our own ===== -/
def gP (gs : List (Nat × aI)) (P : aP) : aP := gs.foldl (fun P e => ((94, nK (e.1 : Int)), e.2) :: pkp 94 (nK (e.1 : Int)) P) P
def gI (rho : Nat → Int) (gs : List (Nat × aI)) (I : Nat → Nat → Int32) : Nat → Nat → Int32 := gs.foldl (fun I e => up2 I 94 e.1 (Int32.ofInt (fvl rho e.2))) I
theorem ofI {x : Int} (h1 : lo32 ≤ x) (h2 : x ≤ hi32) : (Int32.ofInt x).toInt = x := by
  rw [Int32.toInt_ofInt]
  exact bm32 h1 h2
theorem gP_ok {n : Nat} {rho : Nat → Int} : ∀ {gs : List (Nat × aI)} {P : aP} {I : Nat → Nat → Int32}, (∀ e ∈ gs, nb n e.2 ∧ lo32 ≤ fvl rho e.2 ∧ fvl rho e.2 ≤ hi32) → pOK n rho P I → pOK n rho (gP gs P) (gI rho gs I)
  | [], P, I, _, h => h
  | e :: gs, P, I, hg, h => by
    obtain ⟨h1, h2, h3⟩ := hg e List.mem_cons_self
    refine gP_ok (gs := gs) (fun e he => hg e (List.mem_cons_of_mem _ he)) ?_
    have := pst_add (q := 94) (x := nK (e.1 : Int)) (z := e.2) (v := Int32.ofInt (fvl rho e.2)) h (by rw [fvl_K]; omega) nb_K h1 (ofI h2 h3)
    rw [fvl_K, show ((e.1 : Int)).toNat = e.1 by omega] at this
    exact this
theorem gI_ne {rho : Nat → Int} {q k : Nat} : ∀ {gs : List (Nat × aI)} {I : Nat → Nat → Int32}, (∀ e ∈ gs, ¬ (q = 94 ∧ k = e.1)) → gI rho gs I q k = I q k
  | [], _, _ => rfl
  | e :: gs, I, h => by
    show gI rho gs (up2 I 94 e.1 _) q k = _
    rw [gI_ne (gs := gs) (fun e he => h e (List.mem_cons_of_mem _ he))]
    exact up2_ne (h e List.mem_cons_self)
theorem gI_row {rho : Nat → Int} {q : Nat} {gs : List (Nat × aI)} {I : Nat → Nat → Int32} (h : ¬ q = 94) : gI rho gs I q = I q := by
  funext k
  exact gI_ne (fun e _ q => h q.1)
theorem XF.ghs {dd : Nat} {Q : Option Value → mW → Prop} {t : mFr} {fs : List mFr} {sh : List mE} {L : Nat → Nat → Int64} {R : Nat → Nat → Option Nat} {rho : Nat → Int} (hq : sh[94]? = some (.inr 12)) : ∀ {gs : List (Nat × aI)} {I : Nat → Nat → Int32}, (∀ e ∈ gs, (flds 12).length ≤ e.1) → XF none dd 0 0 Q t fs (sh, gI rho gs I, L, R) → XF none dd 0 0 Q t fs (sh, I, L, R)
  | [], _, _, h => h
  | e :: gs, I, hg, h => XF.gh hq (hg e List.mem_cons_self) (XF.ghs hq (gs := gs) (fun e he => hg e (List.mem_cons_of_mem _ he)) h)
/-- the store that stands here: cell, place, value -/
noncomputable def stOf (A : aS) : Option (Nat × aI × aI) := match mcode A.1.1 A.1.2.1, A.1.2.2.2 with
  | some (_, .iastore, _, _, _, _, _), .inl z :: .inl x :: .inr (some q) :: _ => some (q, x, z)
  | some (_, .putfield _, _, _, b, _, _), .inl v :: .inr (some q) :: _ => some (q, nK (b : Int), v)
  | _, _ => none
def gok (T : aT) (md : aM) (B : aB) (gs : List (Nat × aI)) : Bool := gs.all (fun e => Nat.ble 111 e.1 && (nbb B.1 e.2 && (in32 (ivl B e.2).1 (ivl B e.2).2 && (inm md 94 e.1 && (ile (rg T 94 e.1).1 lo32 && ile hi32 (rg T 94 e.1).2)))))
noncomputable def spG (chk : aS → Option (List (Nat × aI))) (T : aT) (md : aM) (A : aS) : Option (List aS) := match chk A with
  | none => none
  | some gs => match A with
    | ((j, pc, ls, st), fs, B, P, F, G) => match mt j, mcode j pc, T.1 94 with
      | some _, some (_, ins, len, a, b, _, _), some (.inr 12) => match ins, st with
        | .iastore, .inl z :: .inl x :: .inr (some q) :: r => match T.1 q with
          | some (.inl (.int, n)) => bif inx B F x n && (hasA md q && (rgS T B F q x z && gok T md B gs)) then some [((j, pc + 1, ls, r), fs, B, gP gs (((q, x), z) :: pkp q x P), F, G)] else none
          | _ => none
        | .putfield _, .inl v :: .inr (some q) :: r => match (flds a)[b]? with
          | some f => match f.2.2.2 with
            | .int => bif (Nat.beq q 94 && (Nat.beq a 12 && (Nat.beq len 3 && !f.2.2.1))) && (inm md 94 b && (rgS T B F 94 (nK (b : Int)) v && gok T md B gs)) then some [((j, pc + 3, ls, r), fs, B, gP gs (((94, nK (b : Int)), v) :: pkp 94 (nK (b : Int)) P), F, G)] else none
            | _ => none
          | none => none
        | _, _ => none
      | _, _, _ => none
theorem gok_ok {T : aT} {md : aM} {B : aB} {gs : List (Nat × aI)} {rho : Nat → Int} (hB : bOK B rho) (h : gok T md B gs = true) : (∀ e ∈ gs, nb B.1 e.2 ∧ lo32 ≤ fvl rho e.2 ∧ fvl rho e.2 ≤ hi32) ∧ (∀ e ∈ gs, 111 ≤ e.1 ∧ inm md 94 e.1 = true ∧ (rg T 94 e.1).1 ≤ lo32 ∧ hi32 ≤ (rg T 94 e.1).2) := by
  unfold gok at h
  rw [List.all_eq_true] at h
  refine ⟨fun e he => ?_, fun e he => ?_⟩
  · have := h e he
    simp only [Bool.and_eq_true, ile_iff] at this
    have hn := nbb_ok this.2.1
    have hi := in32_iff.mp this.2.2.1
    have hv := ivf_ok hB hn
    exact ⟨hn, by omega, by omega⟩
  · have := h e he
    simp only [Bool.and_eq_true, ile_iff] at this
    exact ⟨Nat.le_of_ble_eq_true this.1, this.2.2.2.1, this.2.2.2.2.1, this.2.2.2.2.2⟩
theorem gI_rng {T : aT} {rho : Nat → Int} : ∀ {gs : List (Nat × aI)} {I : Nat → Nat → Int32}, (∀ e ∈ gs, (rg T 94 e.1).1 ≤ lo32 ∧ hi32 ≤ (rg T 94 e.1).2) → (∀ q k, (rg T q k).1 ≤ (I q k).toInt ∧ (I q k).toInt ≤ (rg T q k).2) → ∀ q k, (rg T q k).1 ≤ (gI rho gs I q k).toInt ∧ (gI rho gs I q k).toInt ≤ (rg T q k).2
  | [], _, _, h => h
  | e :: gs, I, hg, h => by
    refine gI_rng (gs := gs) (fun e he => hg e (List.mem_cons_of_mem _ he)) (fun q k => ?_)
    have hb := i32b (Int32.ofInt (fvl rho e.2))
    have h2 := hg e List.mem_cons_self
    show (rg T q k).1 ≤ (up2 I 94 e.1 (Int32.ofInt (fvl rho e.2)) q k).toInt ∧ (up2 I 94 e.1 (Int32.ofInt (fvl rho e.2)) q k).toInt ≤ (rg T q k).2
    unfold up2
    split
    · next e1 =>
      split
      · next e2 => rw [e1, e2]; omega
      · exact h q k
    · exact h q k
theorem gI_same {md : aM} {rho : Nat → Int} {I0 : Nat → Nat → Int32} : ∀ {gs : List (Nat × aI)} {I : Nat → Nat → Int32}, (∀ e ∈ gs, inm md 94 e.1 = true) → sameI md I0 I → sameI md I0 (gI rho gs I)
  | [], _, _, h => h
  | e :: gs, I, hg, h => gI_same (gs := gs) (fun e he => hg e (List.mem_cons_of_mem _ he)) (sameI_put h (hg e List.mem_cons_self))
theorem spG_ok {T : aT} {E : mW → Prop} {md : aM} {Z : aZ} {av : List Value} {I0 : Nat → Nat → Int32} {dd : Nat} {chk : aS → Option (List (Nat × aI))}
    (hchk : ∀ A gs q x z, chk A = some gs → stOf A = some (q, x, z) → ∀ (rho : Nat → Int) (sh : List mE) (I : Nat → Nat → Int32) (L : Nat → Nat → Int64) (R : Nat → Nat → Option Nat) (k : Int32), bOK A.2.2.1 rho → cOK A.2.2.1.1 rho A.2.2.2.2.1 → pOK A.2.2.1.1 rho A.2.2.2.1 I → wOK T E (sh, I, L, R) → nb A.2.2.1.1 x → nb A.2.2.1.1 z → 0 ≤ fvl rho x → k.toInt = fvl rho z → (∀ e ∈ gs, nb A.2.2.1.1 e.2 ∧ lo32 ≤ fvl rho e.2 ∧ fvl rho e.2 ≤ hi32) → E (sh, gI rho gs (up2 I q (fvl rho x).toNat k), L, R))
    {A : aS} {As : List aS} (h : spG chk T md A = some As) : Snd T E md Z av I0 dd A As := by
  intro rho C hS K
  unfold spG at h
  split at h
  · cases h
  · next gs hg0 =>
    obtain ⟨⟨j, pc, ls, st⟩, fs, B, P, F, G⟩ := A
    obtain ⟨⟨j', pc', l, s⟩, gfs, ⟨sh, I, L, R⟩⟩ := C
    obtain ⟨⟨e1', e2', hl, hs⟩, hfs, hB, hP, hF, hG, hw, hI⟩ := hS
    dsimp only at e1' e2' hl hs hfs hB hP hF hG hI K h ⊢
    subst e1' e2'
    split at h
    · next M p0 ins len a b v0 h0 hM he hT94 =>
      have h94 : sh[94]? = some (.inr 12) := hw.1 94 _ hT94
      split at h
      · next z x q r =>
        match s, hs with
        | t :: u :: v :: s, hs =>
          obtain ⟨hz, k, rfl, hk⟩ := hs.1
          obtain ⟨hx, i, rfl, hi⟩ := hs.2.1
          obtain rfl : v = .ref q := hs.2.2.1
          split at h
          · next n hT =>
            have hsh : sh[q]? = some (.inl (.int, n)) := hw.1 q _ hT
            obtain ⟨g, h8⟩ := bif_o h
            cases h8
            simp only [Bool.and_eq_true] at g
            obtain ⟨g1, g2, g3, g4⟩ := g
            obtain ⟨u1, u2, u3⟩ := inx_ok hB hF hx hi g1
            obtain ⟨w1, w2⟩ := gok_ok hB g4
            have hr := rgS_ok hB hF hx u2 hz g3 (by have := i32b k; rw [hk] at this; exact this.1) (by have := i32b k; rw [hk] at this; exact this.2)
            have hEE := hchk _ gs q x z hg0 (by unfold stOf; dsimp only; rw [he]) rho sh I L R k hB hF hP hw hx hz u2 hk w1
            refine XF.fam (pc' := pc + 1) (ls' := l) (st' := s) (w' := (sh, up2 I q i.toNatClampNeg k, L, R)) hM he (Or.inr (Or.inr (Or.inr (Or.inl ⟨s, _, by simp [sta, hsh, aok, u1], rfl⟩)))) ?_
            rw [u3]
            refine XF.ghs (rho := rho) h94 (gs := gs) (fun e he' => Nat.le_trans (by decide) (w2 e he').1) ?_
            refine K _ (List.mem_singleton_self _) rho ((j, pc + 1, l, s), gfs, (sh, gI rho gs (up2 I q (fvl rho x).toNat k), L, R)) (agr.refl _ _) ⟨⟨rfl, rfl, hl, hs.2.2.2⟩, hfs, hB, gP_ok w1 (pst_add hP u2 hx hz hk), hF, hG, ⟨hw.1, hw.2.1, gI_rng (fun e he' => (w2 e he').2.2) (fun q' k' => ?_), hEE⟩, gI_same (fun e he' => (w2 e he').2.1) (sameI_put hI (inm_of_hasA g2 _))⟩
            show (rg T q' k').1 ≤ (up2 I q (fvl rho x).toNat k q' k').toInt ∧ _
            unfold up2
            split
            · next e1 =>
              split
              · next e2 => rw [e1, e2, hk]; exact hr
              · exact hw.2.2.1 q' k'
            · exact hw.2.2.1 q' k'
          · cases h
      · next ix v q r =>
        match s, hs with
        | t :: u :: s, hs =>
          obtain ⟨hv, x, rfl, hx⟩ := hs.1
          obtain rfl : u = .ref q := hs.2.1
          split at h
          · next f hf =>
            split at h
            · next hty =>
              obtain ⟨g, h8⟩ := bif_o h
              cases h8
              simp only [Bool.and_eq_true, Bool.not_eq_true'] at g
              obtain ⟨⟨g0, g1, g3, g4⟩, g7, g8, g9⟩ := g
              have q0 := Nat.eq_of_beq_eq_true g0
              have q1 := Nat.eq_of_beq_eq_true g1
              have q3 := Nat.eq_of_beq_eq_true g3
              subst q0 q1 q3
              obtain ⟨w1, w2⟩ := gok_ok hB g9
              have e0 : (fvl rho (nK (b : Int))).toNat = b := by rw [fvl_K]; omega
              have p0 : 0 ≤ fvl rho (nK (b : Int)) := by rw [fvl_K]; omega
              have hbx := i32b x
              have hr := rgS_ok hB hF nb_K p0 hv g8 (by rw [← hx]; exact hbx.1) (by rw [← hx]; exact hbx.2)
              rw [e0, ← hx] at hr
              have hEE := hchk _ gs 94 (nK (b : Int)) v hg0 (by unfold stOf; dsimp only; rw [he]) rho sh I L R x hB hF hP hw nb_K hv p0 hx w1
              rw [e0] at hEE
              refine XF.fam (pc' := pc + 3) (ls' := l) (st' := s) (w' := (sh, up2 I 94 b x, L, R)) hM he (Or.inr (Or.inr (Or.inr (Or.inr (Or.inr (Or.inr (Or.inr (Or.inr (Or.inl ⟨ix, s, _, rfl, ?_, rfl⟩))))))))) ?_
              · have g2' : (!f.2.2.1 || decide (iniOf M = 12)) = true := by rw [g4]; rfl
                simp only [stf, h94, hf, g2', hty, decide_true, Bool.true_and, cond_true]
              · refine XF.ghs (rho := rho) h94 (gs := gs) (fun e he' => Nat.le_trans (by decide) (w2 e he').1) ?_
                refine K _ (List.mem_singleton_self _) rho ((j, pc + 3, l, s), gfs, (sh, gI rho gs (up2 I 94 b x), L, R)) (agr.refl _ _) ⟨⟨rfl, rfl, hl, hs.2.2⟩, hfs, hB, gP_ok w1 ?_, hF, hG, ⟨hw.1, hw.2.1, gI_rng (fun e he' => (w2 e he').2.2) (fun q' k' => ?_), hEE⟩, gI_same (fun e he' => (w2 e he').2.1) (sameI_put hI g7)⟩
                · have := pst_add (q := 94) (x := nK (b : Int)) (z := v) (v := x) hP p0 nb_K hv hx
                  rw [e0] at this
                  exact this
                · show (rg T q' k').1 ≤ (up2 I 94 b x q' k').toInt ∧ _
                  unfold up2
                  split
                  · next e1 =>
                    split
                    · next e2 => rw [e1, e2]; exact hr
                    · exact hw.2.2.1 q' k'
                  · exact hw.2.2.1 q' k'
            · cases h
          · cases h
      · cases h
    · cases h
