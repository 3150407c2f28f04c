/-! ===== a row is worked off: what is kept while it is ===== -/
/-- own numbers: 204 the height, 205 206 the piece, 207 how far -/
def e3 (I : Nat → Nat → Int32) : Prop := nv I 94 206 ≤ 270 * nv I 94 35 ∧ vsg (zv I 131) (zv I 132) (nv I 94 205) (nv I 94 206) ∧ nv I 94 205 ≤ nv I 94 207 ∧ nv I 94 207 ≤ nv I 94 206 ∧ hgt (zv I 131) (nv I 94 205) (nv I 94 207 - nv I 94 205) = zv I 94 204
theorem e3_far {I I' : Nat → Nat → Int32} (h35 : nv I 94 35 ≤ nv I' 94 35) (m : ∀ k, k = 204 ∨ k = 205 ∨ k = 206 ∨ k = 207 → I' 94 k = I 94 k) (ca : ∀ k, k < 270 * nv I 94 35 → I' 131 k = I 131 k ∧ I' 132 k = I 132 k) (h : e3 I) : e3 I' := by
  obtain ⟨a1, a2, a3, a4, a5⟩ := h
  have n205 : nv I' 94 205 = nv I 94 205 := by unfold nv; rw [m 205 (by simp)]
  have n206 : nv I' 94 206 = nv I 94 206 := by unfold nv; rw [m 206 (by simp)]
  have n207 : nv I' 94 207 = nv I 94 207 := by unfold nv; rw [m 207 (by simp)]
  have z204 : zv I' 94 204 = zv I 94 204 := by unfold zv; rw [m 204 (by simp)]
  have za : ∀ k, k < nv I 94 206 → zv I 131 k = zv I' 131 k ∧ zv I 132 k = zv I' 132 k := by
    intro k hk
    have := ca k (by omega)
    unfold zv
    rw [this.1, this.2]
    exact ⟨rfl, rfl⟩
  unfold e3
  rw [n205, n206, n207, z204]
  refine ⟨by omega, vsg_congr (fun k _ hk => za k hk) a2, a3, a4, ?_⟩
  rw [← hgt_congr (A := zv I 131) (fun k h1 h2 => (za k (by omega)).1)]
  exact a5
/-- one step further -/
theorem e3_next {I I' : Nat → Nat → Int32} (hlt : nv I 94 207 < nv I 94 206) (m35 : I' 94 35 = I 94 35) (m205 : I' 94 205 = I 94 205) (m206 : I' 94 206 = I 94 206) (h131 : I' 131 = I 131) (h132 : I' 132 = I 132) (n207 : nv I' 94 207 = nv I 94 207 + 1) (z204 : zv I' 94 204 = zv I 94 204 + dl (zv I 131 (nv I 94 207))) (h : e3 I) : e3 I' := by
  obtain ⟨a1, a2, a3, a4, a5⟩ := h
  have n205 : nv I' 94 205 = nv I 94 205 := by unfold nv; rw [m205]
  have n206 : nv I' 94 206 = nv I 94 206 := by unfold nv; rw [m206]
  have n35 : nv I' 94 35 = nv I 94 35 := by unfold nv; rw [m35]
  have e131 : zv I' 131 = zv I 131 := by funext k; unfold zv; rw [h131]
  have e132 : zv I' 132 = zv I 132 := by funext k; unfold zv; rw [h132]
  unfold e3
  rw [n205, n206, n35, n207, e131, e132, z204]
  refine ⟨a1, a2, by omega, by omega, ?_⟩
  rw [show nv I 94 207 + 1 - nv I 94 205 = (nv I 94 207 - nv I 94 205) + 1 by omega]
  unfold hgt
  rw [a5, show nv I 94 205 + (nv I 94 207 - nv I 94 205) = nv I 94 207 by omega]
/-- a piece of a line of a rule is taken up -/
theorem e3_set {I I' : Nat → Nat → Int32} {s e : Nat} (he : e ≤ 270 * nv I 94 35) (hse : s ≤ e) (hv : vsg (zv I 131) (zv I 132) s e) (m35 : I' 94 35 = I 94 35) (h131 : I' 131 = I 131) (h132 : I' 132 = I 132) (n205 : nv I' 94 205 = s) (n206 : nv I' 94 206 = e) (n207 : nv I' 94 207 = s) (z204 : zv I' 94 204 = 0) : e3 I' := by
  have n35 : nv I' 94 35 = nv I 94 35 := by unfold nv; rw [m35]
  have e131 : zv I' 131 = zv I 131 := by funext k; unfold zv; rw [h131]
  have e132 : zv I' 132 = zv I 132 := by funext k; unfold zv; rw [h132]
  unfold e3
  rw [n205, n206, n35, n207, e131, e132, z204, Nat.sub_self]
  exact ⟨he, hv, Nat.le_refl _, hse, rfl⟩
/-- what the step at hand may be, and what is then known -/
theorem e3_here {I : Nat → Nat → Int32} (hlt : nv I 94 207 < nv I 94 206) (h : e3 I) : ned (zv I 131 (nv I 94 207)) ≤ zv I 94 204 ∧ (zv I 131 (nv I 94 207) = 2 → 0 ≤ zv I 132 (nv I 94 207) ∧ zv I 132 (nv I 94 207) ≤ 9) ∧ zv I 94 204 ≤ ((nv I 94 207 - nv I 94 205 : Nat) : Int) := by
  obtain ⟨a1, a2, a3, a4, a5⟩ := h
  have := a2 (nv I 94 207 - nv I 94 205) (by omega)
  rw [a5, show nv I 94 205 + (nv I 94 207 - nv I 94 205) = nv I 94 207 by omega] at this
  refine ⟨this.1, this.2, ?_⟩
  rw [← a5]
  exact (hgt_bd _).2
def w2f (n : aI) (d : Int) (k : aI) : List (Nat × aI) := [(204, nad n (nK d)), (207, nad k (nK 1))]
def w2s (A : aS) (r : List aV) (B : aB) (w : aI) (n : aI) (d : Int) (k : aI) (P : aP) (fc : List aI) : aS := ((300, 31, A.1.2.2.1, .inl w :: r), A.2.1, B, gP (w2f n d k) (((131, k), w) :: P), fc ++ (nsb (nK 269) n :: A.2.2.2.2.1), A.2.2.2.2.2)
/-- the step is read: five ways -/
def spW (T : aT) (md : aM) (A : aS) : Option (List aS) := bif Nat.beq A.1.1 300 && Nat.beq A.1.2.1 30 then (match A.1.2.2.2, alk A.1.2.2.1 4, pl94 A 204, pl94 A 205, pl94 A 206, pl94 A 207, T.1 131, T.1 94 with
    | .inl k :: .inr (some 131) :: r, some (.inl n), some p4, some p5, some p6, some p7, some (.inl (.int, 5670)), some (.inr 12) => match A.2.2.1, A.2.2.2.1 with
      | B, P => bif (inx B A.2.2.2.2.1 k 5670 && (pva A (nsb k p7) && pva A (nsb p7 k))) && ((pva A (nsb n p4) && pva A (nsb p4 n)) && ((pva A (nsb (nsb p6 k) (nK 1)) && (pva A p5 && pva A (nsb (nK 270) (nsb p6 p5)))) && (pva A k && (gok T md B (w2f n 1 k) && (gok T md B (w2f n 0 k) && (gok T md B (w2f n (-1) k) && nbb B.1 n)))))) then
          some [w2s A r B (nK 1) n 1 k P [n], w2s A r (B.1 + 1, (B.1, 0, 9) :: B.2) (nK 2) n 1 k (((132, k), nV B.1) :: P) [n], w2s A r B (nK 3) n 0 k P [nsb n (nK 1)], w2s A r (B.1 + 1, (B.1, lo32, 0) :: B.2) (nV B.1) n (-1) k P [nsb n (nK 2)], w2s A r (B.1 + 1, (B.1, 4, hi32) :: B.2) (nV B.1) n (-1) k P [nsb n (nK 2)]] else none
    | _, _, _, _, _, _, _, _ => none) else none
theorem spW_ok {T : aT} {E : mW → Prop} {md : aM} {Z : aZ} {av : List Value} {I0 : Nat → Nat → Int32} {dd : Nat} (hE3 : ∀ w, E w → e3 w.2.1) (hEg : ∀ sh I L R rho gs, (∀ e ∈ gs, 204 ≤ e.1 ∧ e.1 ≤ 207) → E (sh, I, L, R) → e3 (gI rho gs I) → E (sh, gI rho gs I, L, R)) {A : aS} {As : List aS} (h : spW T md A = some As) : Snd T E md Z av I0 dd A As := by
  obtain ⟨⟨j, pc, ls, st⟩, fs, B, P, F, G⟩ := A
  intro rho C hS K
  obtain ⟨⟨j', pc', l, s⟩, gfs, ⟨sh, I, L, R⟩⟩ := C
  obtain ⟨⟨e1', e2', hl, hs⟩, hfs, hB, hP, hF, hG, hw, hI⟩ := hS
  dsimp only at e1' e2' hl hs hfs hB hP hF hG hI K ⊢
  subst e1' e2'
  unfold spW at h
  dsimp only at h
  obtain ⟨hb, h9⟩ := bif_o h
  clear h
  rw [Bool.and_eq_true] at hb
  have ej := Nat.eq_of_beq_eq_true hb.1
  have ep := Nat.eq_of_beq_eq_true hb.2
  subst ej ep
  split at h9
  · next k r n p4 p5 p6 p7 eN hT hT94 e4 e5 e6 e7 =>
    match s, hs with
    | u :: v :: s, hs =>
      obtain ⟨hkn, ki, rfl, hki⟩ := hs.1
      obtain rfl : v = .ref 131 := hs.2.1
      obtain ⟨g, h8⟩ := bif_o h9
      simp only [Bool.and_eq_true] at g
      obtain ⟨⟨g1, g2, g3⟩, ⟨g4, g5⟩, ⟨g6, g7, g8⟩, g9, g10, g11, g12, g13⟩ := g
      have pv : ∀ {a : aI}, nb B.1 a → pva ((300, 30, ls, .inl k :: .inr (some 131) :: r), fs, B, P, F, G) a = true → 0 ≤ fvl rho a := fun ha hp => prv_ok hB hF ha hp
      have hn : nb B.1 n := nbb_ok g13
      obtain ⟨n4, v4⟩ := pl94_ok (A := ((300, 30, ls, .inl k :: .inr (some 131) :: r), fs, B, P, F, G)) hP e4
      obtain ⟨n5, v5⟩ := pl94_ok (A := ((300, 30, ls, .inl k :: .inr (some 131) :: r), fs, B, P, F, G)) hP e5
      obtain ⟨n6, v6⟩ := pl94_ok (A := ((300, 30, ls, .inl k :: .inr (some 131) :: r), fs, B, P, F, G)) hP e6
      obtain ⟨n7, v7⟩ := pl94_ok (A := ((300, 30, ls, .inl k :: .inr (some 131) :: r), fs, B, P, F, G)) hP e7
      dsimp only at n4 n5 n6 n7
      have a2 := pv (nb_sb hkn n7) g2
      have a3 := pv (nb_sb n7 hkn) g3
      have a4 := pv (nb_sb hn n4) g4
      have a5 := pv (nb_sb n4 hn) g5
      have a6 := pv (nb_sb (nb_sb n6 hkn) nb_K) g6
      have a7 := pv n5 g7
      have a8 := pv (nb_sb nb_K (nb_sb n6 n5)) g8
      have a9 := pv hkn g9
      rw [fvl_sb, v7] at a2 a3
      rw [fvl_sb, v4] at a4 a5
      rw [fvl_sb, fvl_sb, fvl_K, v6] at a6
      rw [v5] at a7
      rw [fvl_sb, fvl_sb, fvl_K, v6, v5] at a8
      obtain ⟨u1, u2, u3⟩ := inx_ok hB hF hkn hki g1
      have h94 : sh[94]? = some (.inr 12) := hw.1 94 _ hT94
      have hsh : sh[131]? = some (.inl (.int, 5670)) := hw.1 131 _ hT
      have he3 := hE3 _ hw.2.2.2
      dsimp only at he3
      have k7 : nv I 94 207 = (fvl rho k).toNat := by unfold nv; unfold zv at a2 a3; omega
      have hlt : nv I 94 207 < nv I 94 206 := by rw [k7]; unfold nv; unfold zv at a6; omega
      obtain ⟨b1, b2, b3⟩ := e3_here hlt he3
      have hn269 : fvl rho n ≤ 269 := by
        have : zv I 94 204 = fvl rho n := by omega
        have k5 : nv I 94 205 = (zv I 94 205).toNat := rfl
        have := he3.2.2.1
        omega
      have hz : zv I 131 (nv I 94 207) = (I 131 ki.toNatClampNeg).toInt := by rw [k7, u3]; rfl
      have z4 : zv I 94 204 = fvl rho n := by omega
      rw [hz] at b1 b2
      rw [z4] at b1
      have fin : ∀ (B' : aB) (rho' : Nat → Int) (wf : aI) (d : Int) (P' : aP) (fc : List aI), w2s ((300, 30, ls, .inl k :: .inr (some 131) :: r), fs, B, P, F, G) r B' wf n d k P' fc ∈ As → agr B.1 rho rho' → bOK B' rho' → B.1 ≤ B'.1 → nb B'.1 wf → fvl rho' wf = (I 131 ki.toNatClampNeg).toInt → dl (I 131 ki.toNatClampNeg).toInt = d → pOK B'.1 rho' P' I → (∀ f ∈ fc, nb B'.1 f ∧ 0 ≤ fvl rho' f) → gok T md B (w2f n d k) = true → XF none dd 0 0 (Qk T E md Z.1 Z.2.1 av I0) (300, 30, l, .int ki :: .ref 131 :: s) gfs (sh, I, L, R) := by
        intro B' rho' wf d P' fc hm ha hB' hle hwf hwv hd hP' hfc hgo
        obtain ⟨w1, w2⟩ := gok_ok hB hgo
        have w1' : ∀ e ∈ w2f n d k, nb B'.1 e.2 ∧ lo32 ≤ fvl rho' e.2 ∧ fvl rho' e.2 ≤ hi32 := by
          intro e he
          obtain ⟨q1, q2, q3⟩ := w1 e he
          rw [fvl_agr ha q1]
          exact ⟨q1.mono hle, q2, q3⟩
        refine XF.fam (pc' := 31) (ls' := l) (st' := .int (I 131 ki.toNatClampNeg) :: s) (w' := (sh, I, L, R)) (M := mr_300) rfl (show mcode 300 30 = some (30, .iaload, 1, 0, 0, 0, _) from rfl) (Or.inr (Or.inr (Or.inl ⟨_, by simp [lda, hsh, aok, u1], rfl⟩))) ?_
        refine XF.ghs (rho := rho') h94 (gs := w2f n d k) (fun e he => Nat.le_trans (by decide) (w2 e he).1) ?_
        have hge : ∀ e ∈ w2f n d k, e.1 = 204 ∨ e.1 = 207 := by
          intro e he
          simp only [w2f, List.mem_cons, List.not_mem_nil, or_false] at he
          rcases he with rfl | rfl
          · exact Or.inl rfl
          · exact Or.inr rfl
        have m : ∀ k', ¬ k' = 204 → ¬ k' = 207 → gI rho' (w2f n d k) I 94 k' = I 94 k' := fun k' q1 q2 => gI_ne (fun e he q => by have := hge e he; omega)
        have y1 := (w1' (204, nad n (nK d)) List.mem_cons_self).2
        have y2 := (w1' (207, nad k (nK 1)) (List.mem_cons_of_mem _ (List.mem_singleton_self _))).2
        dsimp only at y1 y2
        have z204 : zv (gI rho' (w2f n d k) I) 94 204 = fvl rho n + d := by
          unfold zv
          simp only [w2f, gI, List.foldl_cons, List.foldl_nil]
          rw [up2_ne (by decide), up2_eq, ofI y1.1 y1.2, fvl_ad, fvl_K, fvl_agr ha hn]
        have z207 : nv (gI rho' (w2f n d k) I) 94 207 = (fvl rho k + 1).toNat := by
          unfold nv
          simp only [w2f, gI, List.foldl_cons, List.foldl_nil]
          rw [up2_eq, ofI y2.1 y2.2, fvl_ad, fvl_K, fvl_agr ha hkn]
        have hEE : E (sh, gI rho' (w2f n d k) I, L, R) := by
          refine hEg _ _ _ _ _ _ (fun e he => by have := hge e he; omega) hw.2.2.2 (e3_next hlt (m 35 (by decide) (by decide)) (m 205 (by decide) (by decide)) (m 206 (by decide) (by decide)) (gI_row (by decide)) (gI_row (by decide)) ?_ ?_ he3)
          · rw [z207, k7]; omega
          · rw [z204, z4, hz, hd]
        refine K _ hm rho' ((300, 31, l, .int (I 131 ki.toNatClampNeg) :: s), gfs, (sh, gI rho' (w2f n d k) I, L, R)) ha ⟨⟨rfl, rfl, hl.mono hle ha, ⟨hwf, _, rfl, hwv.symm⟩, hs.2.2.mono hle ha⟩, hfs.mono hle ha, hB', gP_ok w1' ?_, ?_, hG.mono hle ha, ⟨hw.1, hw.2.1, gI_rng (fun e he => (w2 e he).2.2) hw.2.2.1, hEE⟩, gI_same (fun e he => (w2 e he).2.1) hI⟩
        · intro e he
          rcases List.mem_cons.mp he with rfl | he
          · refine ⟨hkn.mono hle, hwf, ?_, ?_⟩
            · dsimp only; rw [fvl_agr ha hkn]; exact u2
            · dsimp only; rw [fvl_agr ha hkn, hwv, u3]
          · exact hP' e he
        · intro f hf
          rcases List.mem_append.mp hf with hf | hf
          · exact hfc f hf
          · rcases List.mem_cons.mp hf with rfl | hf
            · refine ⟨(nb_sb nb_K hn).mono hle, ?_⟩
              rw [fvl_agr ha (nb_sb nb_K hn), fvl_sb, fvl_K]
              omega
            · exact hF.mono hle ha f hf
      cases h8
      have nw : ∀ (l0 u0 v0 : Int), l0 ≤ v0 → v0 ≤ u0 → lo32 ≤ v0 → v0 ≤ hi32 → agr B.1 rho (fun x => if x = B.1 then v0 else rho x) ∧ bOK (B.1 + 1, (B.1, l0, u0) :: B.2) (fun x => if x = B.1 then v0 else rho x) := by
        intro l0 u0 v0 q1 q2 q3 q4
        refine ⟨fun x hx => by show (if x = B.1 then v0 else rho x) = rho x; rw [if_neg (by omega)], fun x hx => ?_, fun e he => ?_⟩
        · dsimp only
          split
          · exact ⟨q3, q4⟩
          · exact hB.1 x (by dsimp only at hx; omega)
        · rcases List.mem_cons.mp he with rfl | he
          · dsimp only
            rw [if_pos rfl]
            omega
          · obtain ⟨c1, c2, c3⟩ := hB.2 e he
            dsimp only
            rw [if_neg (by omega)]
            exact ⟨by omega, c2, c3⟩
      have hwb := i32b (I 131 ki.toNatClampNeg)
      have hle1 : B.1 ≤ B.1 + 1 := by omega
      generalize hww : (I 131 ki.toNatClampNeg).toInt = w at fin b1 b2 hwb
      by_cases c1 : w = 1
      · subst c1
        refine fin B rho (nK 1) 1 P [n] (by simp) (agr.refl _ _) hB (Nat.le_refl _) nb_K fvl_K rfl hP (fun f hf => ?_) g10
        rcases List.mem_singleton.mp hf with rfl
        have : ned 1 = 0 := rfl
        exact ⟨hn, by omega⟩
      by_cases c2 : w = 2
      · subst c2
        have hv := b2 rfl
        rw [k7] at hv
        obtain ⟨q1, q2⟩ := nw 0 9 (zv I 132 (fvl rho k).toNat) hv.1 hv.2 (by unfold lo32; omega) (by unfold hi32; omega)
        refine fin _ _ (nK 2) 1 _ [n] (List.mem_cons_of_mem _ List.mem_cons_self) q1 q2 hle1 nb_K fvl_K rfl ?_ (fun f hf => by
          rcases List.mem_singleton.mp hf with rfl
          have : ned 2 = 0 := rfl
          refine ⟨hn.mono hle1, ?_⟩
          rw [fvl_agr q1 hn]
          omega) g10
        intro e he
        rcases List.mem_cons.mp he with rfl | he
        · refine ⟨hkn.mono hle1, nb_V (by dsimp only; omega), ?_, ?_⟩
          · dsimp only; rw [fvl_agr q1 hkn]; exact u2
          · dsimp only
            rw [fvl_agr q1 hkn, fvl_V]
            show _ = if B.1 = B.1 then _ else _
            rw [if_pos rfl]
            rfl
        · exact hP.mono hle1 q1 e he
      by_cases c3 : w = 3
      · subst c3
        refine fin B rho (nK 3) 0 P [nsb n (nK 1)] (by simp) (agr.refl _ _) hB (Nat.le_refl _) nb_K fvl_K rfl hP (fun f hf => ?_) g11
        rcases List.mem_singleton.mp hf with rfl
        refine ⟨nb_sb hn nb_K, ?_⟩
        rw [fvl_sb, fvl_K]
        have : ned 3 = 1 := rfl
        omega
      have n12 : ¬ (w = 1 ∨ w = 2) := by omega
      have hdl : dl w = -1 := by unfold dl; rw [if_neg n12, if_neg c3]
      have hnd : ned w = 2 := by unfold ned; rw [if_neg n12, if_neg c3]
      have ffc : ∀ v0 : Int, agr B.1 rho (fun x => if x = B.1 then v0 else rho x) → ∀ f ∈ [nsb n (nK 2)], nb (B.1 + 1) f ∧ 0 ≤ fvl (fun x => if x = B.1 then v0 else rho x) f := by
        intro v0 q1 f hf
        rcases List.mem_singleton.mp hf with rfl
        refine ⟨(nb_sb hn nb_K).mono hle1, ?_⟩
        rw [fvl_agr q1 (nb_sb hn nb_K), fvl_sb, fvl_K]
        omega
      by_cases c4 : w ≤ 0
      · obtain ⟨q1, q2⟩ := nw lo32 0 w hwb.1 c4 hwb.1 hwb.2
        refine fin _ _ (nV B.1) (-1) P [nsb n (nK 2)] (by simp) q1 q2 hle1 (nb_V (by dsimp only; omega)) ?_ hdl (hP.mono hle1 q1) (ffc w q1) g12
        rw [fvl_V]
        show (if B.1 = B.1 then w else _) = w
        rw [if_pos rfl]
      · obtain ⟨q1, q2⟩ := nw 4 hi32 w (by omega) hwb.2 hwb.1 hwb.2
        refine fin _ _ (nV B.1) (-1) P [nsb n (nK 2)] (by simp) q1 q2 hle1 (nb_V (by dsimp only; omega)) ?_ hdl (hP.mono hle1 q1) (ffc w q1) g12
        rw [fvl_V]
        show (if B.1 = B.1 then w else _) = w
        rw [if_pos rfl]
  · cases h9
