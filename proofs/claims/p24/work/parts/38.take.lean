/-! ===== a piece of a line is taken up: own numbers alone, ahead of a call of worked ===== -/
def w0f (r a b : aI) : List (Nat × aI) := [(205, nad (nsc 270 r) a), (206, nad (nsc 270 r) b), (207, nad (nsc 270 r) a), (204, nK 0)]
/-- where, the place that holds the line, which piece -/
def spT (tab : List ((Nat × Nat) × Nat × Bool)) (T : aT) (md : aM) (A : aS) : Option (List aS) := match tab.find? (fun e => Nat.beq e.1.1 A.1.1 && Nat.beq e.1.2 A.1.2.1) with
  | none => none
  | some (_, li, wh) => match A.1.2.2.2, alk A.1.2.2.1 li, pl94 A 35, T.1 94 with
    | .inl b :: .inl a :: .inl r :: _, some (.inl lf), some ru, some (.inr 12) => match plk A.2.2.2.1 (bif wh then 129 else 128) lf, plk A.2.2.2.1 (bif wh then 130 else 129) lf, plk A.2.2.2.1 125 r with
      | some a', some b', some lm => bif ((neq a a' && neq b b') && (pva A a && (pva A b && (pva A r && pva A (nsb lf (nsc 130 r)))))) && ((pva A (nsb (nsb lm (nsb lf (nsc 130 r))) (nK 1)) && pva A (nsb (nsb ru r) (nK 1))) && (gok T md A.2.2.1 (w0f r a b) && !(match pl94 A 205 with
          | some p => neq p (nad (nsc 270 r) a)
          | none => false))) then some [(A.1, A.2.1, A.2.2.1, gP (w0f r a b) A.2.2.2.1, A.2.2.2.2.1, A.2.2.2.2.2)] else none
      | _, _, _ => none
    | _, _, _, _ => none
theorem spT_ok {T : aT} {E : mW → Prop} {md : aM} {Z : aZ} {av : List Value} {I0 : Nat → Nat → Int32} {dd : Nat} {tab : List ((Nat × Nat) × Nat × Bool)} (hE2 : ∀ w, E w → e2 w.2.1) (hEg : ∀ sh I L R rho gs, (∀ e ∈ gs, 204 ≤ e.1 ∧ e.1 ≤ 207) → E (sh, I, L, R) → e3 (gI rho gs I) → E (sh, gI rho gs I, L, R)) {A : aS} {As : List aS} (h : spT tab T md A = some As) : Snd T E md Z av I0 dd A As := by
  intro rho C hS K
  obtain ⟨t, gfs, ⟨sh, I, L, R⟩⟩ := C
  obtain ⟨hf, hfs, hB, hP, hF, hG, hw, hI⟩ := hS
  dsimp only at hf hfs hB hP hF hG hI K ⊢
  have pv : ∀ {a : aI}, nb A.2.2.1.1 a → pva A a = true → 0 ≤ fvl rho a := fun ha hp => prv_ok hB hF ha hp
  unfold spT at h
  split at h
  · cases h
  · next li wh hfd =>
    split at h
    · next b a r rest lf ru est elf eru hT94 =>
      split at h
      · next a' b' lm ea eb elm =>
        obtain ⟨g, h8⟩ := bif_o h
        cases h8
        simp only [Bool.and_eq_true] at g
        obtain ⟨⟨⟨g1, g2⟩, g3, g4, g5, g6⟩, ⟨g7, g8⟩, g9, -⟩ := g
        have ea' := neq_ok g1
        have eb' := neq_ok g2
        subst ea' eb'
        obtain ⟨w1, w2⟩ := gok_ok hB g9
        obtain ⟨nlf, na, hlf0, da⟩ := hP _ (plk_mem ea)
        obtain ⟨-, nb', -, db⟩ := hP _ (plk_mem eb)
        obtain ⟨nr, nlm, hr0, dlm⟩ := hP _ (plk_mem elm)
        dsimp only at nlf na hlf0 da nb' db nr nlm hr0 dlm
        obtain ⟨nru, vru⟩ := pl94_ok hP eru
        have v3 := pv na g3
        have v4 := pv nb' g4
        have v6 := pv (nb_sb nlf (nb_sc nr)) g6
        have v7 := pv (nb_sb (nb_sb nlm (nb_sb nlf (nb_sc nr))) nb_K) g7
        have v8 := pv (nb_sb (nb_sb nru nr) nb_K) g8
        rw [fvl_sb, fvl_sc] at v6
        rw [fvl_sb, fvl_sb, fvl_sb, fvl_sc, fvl_K] at v7
        rw [fvl_sb, fvl_sb, fvl_K, vru] at v8
        have h94 : sh[94]? = some (.inr 12) := hw.1 94 _ hT94
        have he2 := hE2 _ hw.2.2.2
        dsimp only at he2
        have hrr : (fvl rho r).toNat < nv I 94 35 := by unfold nv; unfold zv at v8; omega
        have hii : (fvl rho lf - 130 * fvl rho r).toNat < nv I 125 (fvl rho r).toNat := by unfold nv; rw [dlm]; omega
        obtain ⟨c1, c2, c3, c4, c5, c6⟩ := he2.1 (fvl rho r).toNat (fvl rho lf - 130 * fvl rho r).toNat hrr hii
        rw [show 130 * (fvl rho r).toNat + (fvl rho lf - 130 * fvl rho r).toNat = (fvl rho lf).toNat by omega] at c2 c3 c4 c5 c6
        have seg : ∃ s e : Nat, s = (270 * fvl rho r + fvl rho a).toNat ∧ e = (270 * fvl rho r + fvl rho b).toNat ∧ s ≤ e ∧ e ≤ 270 * nv I 94 35 ∧ vsg (zv I 131) (zv I 132) s e := by
          refine ⟨_, _, rfl, rfl, ?_⟩
          have hm := Nat.mul_le_mul_left 270 (show (fvl rho r).toNat + 1 ≤ nv I 94 35 by omega)
          cases wh with
          | false =>
            have x1 : nv I 128 (fvl rho lf).toNat = (fvl rho a).toNat := by unfold nv; exact congrArg Int.toNat da
            have x2 : nv I 129 (fvl rho lf).toNat = (fvl rho b).toNat := by unfold nv; exact congrArg Int.toNat db
            rw [x1, x2] at c2 c5
            rw [x2] at c3
            refine ⟨by omega, by omega, ?_⟩
            rw [show (270 * fvl rho r + fvl rho a).toNat = 270 * (fvl rho r).toNat + (fvl rho a).toNat by omega, show (270 * fvl rho r + fvl rho b).toNat = 270 * (fvl rho r).toNat + (fvl rho b).toNat by omega]
            exact c5
          | true =>
            have x1 : nv I 129 (fvl rho lf).toNat = (fvl rho a).toNat := by unfold nv; exact congrArg Int.toNat da
            have x2 : nv I 130 (fvl rho lf).toNat = (fvl rho b).toNat := by unfold nv; exact congrArg Int.toNat db
            rw [x1, x2] at c3 c6
            rw [x2] at c4
            refine ⟨by omega, by omega, ?_⟩
            rw [show (270 * fvl rho r + fvl rho a).toNat = 270 * (fvl rho r).toNat + (fvl rho a).toNat by omega, show (270 * fvl rho r + fvl rho b).toNat = 270 * (fvl rho r).toNat + (fvl rho b).toNat by omega]
            exact c6
        obtain ⟨s, e, hs1, hs2, hs3, hs4, hs5⟩ := seg
        have hge : ∀ e ∈ w0f r a b, 204 ≤ e.1 ∧ e.1 ≤ 207 := by
          intro e he
          simp only [w0f, List.mem_cons, List.not_mem_nil, or_false] at he
          rcases he with rfl | rfl | rfl | rfl <;> (dsimp only; omega)
        have y1 := (w1 (205, nad (nsc 270 r) a) List.mem_cons_self).2
        have y2 := (w1 (206, nad (nsc 270 r) b) (List.mem_cons_of_mem _ List.mem_cons_self)).2
        dsimp only at y1 y2
        have hEE : E (sh, gI rho (w0f r a b) I, L, R) := by
          refine hEg _ _ _ _ _ _ hge hw.2.2.2 (e3_set hs4 hs3 hs5 (gI_ne (fun e he q => by have := hge e he; omega)) (gI_row (by decide)) (gI_row (by decide)) ?_ ?_ ?_ ?_)
          · unfold nv
            simp only [w0f, gI, List.foldl_cons, List.foldl_nil]
            rw [up2_ne (by decide), up2_ne (by decide), up2_ne (by decide), up2_eq, ofI y1.1 y1.2, fvl_ad, fvl_sc, hs1]
          · unfold nv
            simp only [w0f, gI, List.foldl_cons, List.foldl_nil]
            rw [up2_ne (by decide), up2_ne (by decide), up2_eq, ofI y2.1 y2.2, fvl_ad, fvl_sc, hs2]
          · unfold nv
            simp only [w0f, gI, List.foldl_cons, List.foldl_nil]
            rw [up2_ne (by decide), up2_eq, ofI y1.1 y1.2, fvl_ad, fvl_sc, hs1]
          · unfold zv
            simp only [w0f, gI, List.foldl_cons, List.foldl_nil]
            rw [up2_eq, fvl_K]
            rfl
        refine XF.ghs (rho := rho) h94 (gs := w0f r a b) (fun e he => Nat.le_trans (by decide) (w2 e he).1) ?_
        exact K _ (List.mem_singleton_self _) rho (t, gfs, (sh, gI rho (w0f r a b) I, L, R)) (agr.refl _ _) ⟨hf, hfs, hB, gP_ok w1 hP, hF, hG, ⟨hw.1, hw.2.1, gI_rng (fun e he => (w2 e he).2.2) hw.2.2.1, hEE⟩, gI_same (fun e he => (w2 e he).2.1) hI⟩
      · cases h
    · cases h
