/-! ===== ships have berths: a kept invariant over two places ===== -/
/-- every ship that is there has a berth -/
def e1 (QB SH : Nat) (I : Nat → Nat → Int32) : Prop := ∀ s : Nat, (s : Int) < (I 94 SH).toInt → 1 ≤ (I QB s).toInt
theorem e1_put {QB SH : Nat} (hne : ¬ QB = 94) {I : Nat → Nat → Int32} {q k : Nat} {x : Int32} (h1 : ¬ q = QB) (h2 : ¬ (q = 94 ∧ k = SH)) (h : e1 QB SH I) : e1 QB SH (up2 I q k x) := by
  intro s hs
  have a1 : up2 I q k x QB s = I QB s := by unfold up2; rw [if_neg (fun e => h1 e.symm)]
  have a2 : up2 I q k x 94 SH = I 94 SH := by
    unfold up2
    split
    · next e => rw [if_neg (fun e2 => h2 ⟨e.symm, e2.symm⟩)]
    · rfl
  rw [a1]
  rw [a2] at hs
  exact h s hs
theorem e1_berth {QB SH : Nat} (hne : ¬ QB = 94) {I : Nat → Nat → Int32} {k : Nat} {x : Int32} (hx : 1 ≤ x.toInt) (h : e1 QB SH I) : e1 QB SH (up2 I QB k x) := by
  intro s hs
  have a2 : up2 I QB k x 94 SH = I 94 SH := by unfold up2; rw [if_neg (fun e => hne e.symm)]
  rw [a2] at hs
  unfold up2
  rw [if_pos rfl]
  split
  · exact hx
  · exact h s hs
theorem e1_ship {QB SH : Nat} (hne : ¬ QB = 94) {I : Nat → Nat → Int32} {x : Int32} (hx : x.toInt = (I 94 SH).toInt + 1) (h0 : 0 ≤ (I 94 SH).toInt) (hb : 1 ≤ (I QB (I 94 SH).toInt.toNat).toInt) (h : e1 QB SH I) : e1 QB SH (up2 I 94 SH x) := by
  intro s hs
  have a1 : up2 I 94 SH x QB s = I QB s := by unfold up2; rw [if_neg hne]
  have a2 : up2 I 94 SH x 94 SH = x := by unfold up2; rw [if_pos rfl, if_pos rfl]
  rw [a1]
  rw [a2] at hs
  by_cases e : (s : Int) = (I 94 SH).toInt
  · rw [show s = (I 94 SH).toInt.toNat by omega]
    exact hb
  · exact h s (by omega)
noncomputable def spB (tab : List (Nat × Nat)) (QB SH : Nat) (T : aT) (md : aM) (A : aS) : Option (List aS) := match A with
  | ((j, pc, ls, st), fs, B, P, F, G) => bif tab.any (fun e => Nat.beq e.1 j && Nat.beq e.2 pc) then (match mt j, mcode j pc, T.1 QB with
    | some _, some (_, ins, len, a, b, _, _), some (.inl (.int, n)) => match ins, st with
      | .iastore, .inl z :: .inl x :: .inr (some q) :: r => bif Nat.beq q QB && (inx B F x n && (hasA md QB && (rgS T B F QB x z && prv B F (nsb z (nK 1))))) then some [((j, pc + 1, ls, r), fs, B, ((QB, x), z) :: pkp QB x P, F, G)] else none
      | .iaload, .inl x :: .inr (some q) :: r => match plk P QB x, plk P 94 (nK (SH : Int)) with
        | none, some u => bif Nat.beq q QB && (inx B F x n && prv B F (nsb (nsb u x) (nK 1))) then (match mkv B (imax (rgL T QB x).1 1) (rgL T QB x).2 with
          | (z, B') => some [((j, pc + 1, ls, .inl z :: r), fs, B', ((QB, x), z) :: P, F, G)]) else none
        | _, _ => none
      | .putfield _, .inl v :: .inr (some q) :: r => match T.1 94, (flds a)[b]?, plk P 94 (nK (SH : Int)) with
        | some (.inr c), some f, some u => match f.2.2.2, plk P QB u with
          | .int, some z => bif (Nat.beq q 94 && (Nat.beq c a && (Nat.beq b SH && (Nat.beq len 3 && !f.2.2.1)))) && (neq v (nad u (nK 1)) && (prv B F (nsb z (nK 1)) && (inm md 94 SH && rgS T B F 94 (nK (SH : Int)) v))) then some [((j, pc + 3, ls, r), fs, B, ((94, nK (SH : Int)), v) :: pkp 94 (nK (SH : Int)) P, F, G)] else none
          | _, _ => none
        | _, _, _ => none
      | _, _ => none
    | _, _, _ => none) else none
theorem wOK_up {T : aT} {E : mW → Prop} {sh : List mE} {I : Nat → Nat → Int32} {L : Nat → Nat → Int64} {R : Nat → Nat → Option Nat} {q k : Nat} {v : Int32} (hw : wOK T E (sh, I, L, R)) (hE : E (sh, up2 I q k v, L, R)) (hv : (rg T q k).1 ≤ v.toInt ∧ v.toInt ≤ (rg T q k).2) : wOK T E (sh, up2 I q k v, L, R) := by
  obtain ⟨h1, h2, h3, h4⟩ := hw
  refine ⟨h1, h2, fun q' k' => ?_, hE⟩
  show (rg T q' k').1 ≤ (up2 I q k v q' k').toInt ∧ (up2 I q k v q' k').toInt ≤ (rg T q' k').2
  unfold up2
  split
  · next e1 =>
    split
    · next e2 => rw [e1, e2]; exact hv
    · exact h3 q' k'
  · exact h3 q' k'
theorem spB_ok {T : aT} {E : mW → Prop} {md : aM} {Z : aZ} {av : List Value} {I0 : Nat → Nat → Int32} {dd : Nat} {tab : List (Nat × Nat)} {QB SH : Nat}
    (hE1 : ∀ w, E w → e1 QB SH w.2.1) (hEb : ∀ sh I L R k x, 1 ≤ x.toInt → E (sh, I, L, R) → E (sh, up2 I QB k x, L, R)) (hEs : ∀ sh I L R x, x.toInt = (I 94 SH).toInt + 1 → 0 ≤ (I 94 SH).toInt → 1 ≤ (I QB (I 94 SH).toInt.toNat).toInt → E (sh, I, L, R) → E (sh, up2 I 94 SH x, L, R))
    {A : aS} {As : List aS} (h : spB tab QB SH T md A = some As) : Snd T E md Z av I0 dd A As := by
  obtain ⟨⟨j, pc, ls, st⟩, fs, B, P, F, G⟩ := A
  intro rho C hS K
  obtain ⟨⟨j', pc', l, s⟩, gs, ⟨sh, I, L, R⟩⟩ := C
  obtain ⟨⟨e1', e2', hl, hs⟩, hfs, hB, hP, hF, hG, hw, hI⟩ := hS
  dsimp only at e1' e2' hl hs hfs hB hP hF hG hI K ⊢
  subst e1' e2'
  unfold spB at h
  dsimp only at h
  obtain ⟨hb, h9⟩ := bif_o h
  clear h hb
  split at h9
  · next M p0 ins len a b v0 h0 n hM he hT =>
    have hsh : sh[QB]? = some (.inl (.int, n)) := hw.1 QB _ hT
    split at h9
    · next z x q r =>
      match s, hs with
      | t :: u :: v :: s, hs =>
        obtain ⟨hz, k, rfl, hk⟩ := hs.1
        obtain ⟨hx, i, rfl, hi⟩ := hs.2.1
        obtain rfl : v = .ref q := hs.2.2.1
        obtain ⟨g, h8⟩ := bif_o h9
        cases h8
        simp only [Bool.and_eq_true] at g
        obtain ⟨g0, g1, g2, g3, g4⟩ := g
        have eq := Nat.eq_of_beq_eq_true g0
        subst eq
        obtain ⟨u1, u2, u3⟩ := inx_ok hB hF hx hi g1
        have hk1 := prv_ok hB hF (nb_sb hz nb_K) g4
        rw [fvl_sb, fvl_K] at hk1
        have hr := rgS_ok hB hF hx u2 hz g3 (by have := i32b k; rw [hk] at this; exact this.1) (by have := i32b k; rw [hk] at this; exact this.2)
        refine XF.fam (pc' := pc + 1) (ls' := l) (st' := s) (w' := (sh, up2 I q i.toNatClampNeg k, L, R)) hM he (Or.inr (Or.inr (Or.inr (Or.inl ⟨s, _, by simp [sta, hsh, aok, u1], rfl⟩)))) ?_
        refine K _ (List.mem_singleton_self _) rho ((j, pc + 1, l, s), gs, (sh, up2 I q i.toNatClampNeg k, L, R)) (agr.refl _ _) ⟨⟨rfl, rfl, hl, hs.2.2.2⟩, hfs, hB, ?_, hF, hG, ?_, sameI_put hI (inm_of_hasA g2 _)⟩
        · rw [u3]; exact pst_add hP u2 hx hz hk
        · refine wOK_up hw (hEb _ _ _ _ _ _ (by omega) hw.2.2.2) ?_
          rw [u3, hk]
          exact hr
    · next x q r =>
      match s, hs with
      | u :: v :: s, hs =>
        obtain ⟨hx, i, rfl, hi⟩ := hs.1
        obtain rfl : v = .ref q := hs.2.1
        split at h9
        · next hq u hu =>
          obtain ⟨g, h8⟩ := bif_o h9
          simp only [Bool.and_eq_true] at g
          obtain ⟨g0, g1, g2⟩ := g
          have eq := Nat.eq_of_beq_eq_true g0
          subst eq
          obtain ⟨u1, u2, u3⟩ := inx_ok hB hF hx hi g1
          have hku := plk_K hP hu
          have hlt := prv_ok hB hF (nb_sb (nb_sb hku.1 hx) nb_K) g2
          rw [fvl_sb, fvl_sb, fvl_K] at hlt
          have hr := hw.2.2.1 q (fvl rho x).toNat
          have hg := rgL_ok (T := T) (q := q) (x := x) (rho := rho) (I := I) hw.2.2.1
          have hbe : 1 ≤ (I q (fvl rho x).toNat).toInt := hE1 _ hw.2.2.2 _ (by
            show ((fvl rho x).toNat : Int) < (I 94 SH).toInt
            have := hku.2
            omega)
          have mm := @imax_le (rgL T q x).1 1
          generalize hmk : mkv B (imax (rgL T q x).1 1) (rgL T q x).2 = zb at h8
          obtain ⟨z, B'⟩ := zb
          cases h8
          have hn := mkv_ok (i := I q (fvl rho x).toNat) hB (l := imax (rgL T q x).1 1) (h := (rgL T q x).2) (by omega) hg.2
          rw [hmk] at hn
          obtain ⟨rho', a1, a2, a3, a4, a5⟩ := hn
          refine XF.fam (pc' := pc + 1) (ls' := l) (st' := .int (I q i.toNatClampNeg) :: s) (w' := (sh, I, L, R)) hM he (Or.inr (Or.inr (Or.inl ⟨_, by simp [lda, hsh, aok, u1], rfl⟩))) ?_
          refine K _ (List.mem_singleton_self _) rho' ((j, pc + 1, l, .int (I q i.toNatClampNeg) :: s), gs, (sh, I, L, R)) a1 ⟨⟨rfl, rfl, hl.mono a3 a1, ⟨a4, _, rfl, by rw [u3]; exact a5⟩, hs.2.2.mono a3 a1⟩, hfs.mono a3 a1, a2, ?_, hF.mono a3 a1, hG.mono a3 a1, hw, hI⟩
          intro e he'
          rcases List.mem_cons.mp he' with rfl | he'
          · refine ⟨hx.mono a3, a4, ?_, ?_⟩
            · dsimp only; rw [fvl_agr a1 hx]; exact u2
            · dsimp only; rw [fvl_agr a1 hx]; exact a5
          · exact hP.mono a3 a1 e he'
        · cases h9
    · next ix v q r =>
      match s, hs with
      | t :: u :: s, hs =>
        obtain ⟨hv, x, rfl, hx⟩ := hs.1
        obtain rfl : u = .ref q := hs.2.1
        split at h9
        · next c f u hc hf hu =>
          split at h9
          · next z hty hz =>
            obtain ⟨g, h8⟩ := bif_o h9
            cases h8
            simp only [Bool.and_eq_true, Bool.not_eq_true'] at g
            obtain ⟨⟨g0, g1, g2, g3, g4⟩, g5, g6, g7, g8⟩ := g
            have q0 := Nat.eq_of_beq_eq_true g0
            have q1 := Nat.eq_of_beq_eq_true g1
            have q2 := Nat.eq_of_beq_eq_true g2
            have q3 := Nat.eq_of_beq_eq_true g3
            subst q0 q1 q2 q3
            have ev := neq_ok g5
            subst ev
            have hsh2 : sh[94]? = some (.inr c) := hw.1 94 _ hc
            have hku := plk_K hP hu
            obtain ⟨p1, p2, p3, p4⟩ := hP _ (plk_mem hz)
            dsimp only at p1 p2 p3 p4
            have hz1 := prv_ok hB hF (nb_sb p2 nb_K) g6
            rw [fvl_sb, fvl_K] at hz1
            rw [fvl_ad, fvl_K] at hx
            have e0 : (fvl rho (nK (b : Int))).toNat = b := by rw [fvl_K]; omega
            have p0 : 0 ≤ fvl rho (nK (b : Int)) := by rw [fvl_K]; omega
            have hbx := i32b x
            have hr := rgS_ok hB hF nb_K p0 hv g8 (by rw [fvl_ad, fvl_K, ← hx]; exact hbx.1) (by rw [fvl_ad, fvl_K, ← hx]; exact hbx.2)
            rw [e0, fvl_ad, fvl_K, ← hx] at hr
            have hs94 : (I 94 b).toInt = fvl rho u := hku.2.symm
            refine XF.fam (pc' := pc + 3) (ls' := l) (st' := s) (w' := (sh, up2 I 94 b x, L, R)) hM he (Or.inr (Or.inr (Or.inr (Or.inr (Or.inr (Or.inr (Or.inr (Or.inr (Or.inl ⟨ix, s, _, rfl, ?_, rfl⟩))))))))) ?_
            · have g2' : (!f.2.2.1 || decide (iniOf M = c)) = true := by rw [g4]; rfl
              simp only [stf, hsh2, hf, g2', hty, decide_true, Bool.true_and, cond_true]
            · refine K _ (List.mem_singleton_self _) rho ((j, pc + 3, l, s), gs, (sh, up2 I 94 b x, L, R)) (agr.refl _ _) ⟨⟨rfl, rfl, hl, hs.2.2⟩, hfs, hB, ?_, hF, hG, ?_, sameI_put hI g7⟩
              · have := pst_add (q := 94) (x := nK (b : Int)) (z := nad u (nK 1)) (v := x) hP p0 nb_K hv (by rw [fvl_ad, fvl_K]; exact hx)
                rw [e0] at this
                exact this
              · refine wOK_up hw (hEs _ _ _ _ _ (by omega) (by omega) (by rw [hs94]; omega) hw.2.2.2) hr
          · cases h9
        · cases h9
    · cases h9
  · cases h9
