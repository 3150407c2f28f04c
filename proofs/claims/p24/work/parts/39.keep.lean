/-! ===== all that is kept of the ints; a state is split by the sign of a place ===== -/
def iEq (QB : Nat) (I : Nat → Nat → Int32) : Prop := e1 QB 60 I ∧ e2 I ∧ e3 I
/-- places that no plain store may touch -/
def keptF (QB q : Nat) : Bool ⊕ List Nat := bif Nat.beq q 94 then .inr [35, 52, 53, 60, 200, 201, 202, 203, 204, 205, 206, 207] else .inl (([QB, 125, 128, 129, 130, 131, 132] : List Nat).any (fun x => Nat.beq x q))
theorem keptF_ok {QB q k : Nat} (h : feP (keptF QB q) k = false) : ¬ q = QB ∧ ¬ q = 125 ∧ ¬ q = 128 ∧ ¬ q = 129 ∧ ¬ q = 130 ∧ ¬ q = 131 ∧ ¬ q = 132 ∨ q = 94 ∧ ¬ k = 35 ∧ ¬ k = 52 ∧ ¬ k = 53 ∧ ¬ k = 60 ∧ ¬ k = 200 ∧ ¬ k = 201 ∧ ¬ k = 202 ∧ ¬ k = 203 ∧ ¬ k = 204 ∧ ¬ k = 205 ∧ ¬ k = 206 ∧ ¬ k = 207 := by
  unfold keptF at h
  cases c : Nat.beq q 94 with
  | true =>
    rw [c] at h
    have e := Nat.eq_of_beq_eq_true c
    have key : ∀ y ∈ ([35, 52, 53, 60, 200, 201, 202, 203, 204, 205, 206, 207] : List Nat), ¬ k = y := by
      intro y hy hk
      have : ([35, 52, 53, 60, 200, 201, 202, 203, 204, 205, 206, 207] : List Nat).any (fun y => Nat.beq y k) = true := List.any_eq_true.mpr ⟨y, hy, by rw [hk]; exact Nat.beq_refl y⟩
      have h2 : ([35, 52, 53, 60, 200, 201, 202, 203, 204, 205, 206, 207] : List Nat).any (fun y => Nat.beq y k) = false := h
      rw [this] at h2
      cases h2
    exact Or.inr ⟨e, key 35 (by simp), key 52 (by simp), key 53 (by simp), key 60 (by simp), key 200 (by simp), key 201 (by simp), key 202 (by simp), key 203 (by simp), key 204 (by simp), key 205 (by simp), key 206 (by simp), key 207 (by simp)⟩
  | false =>
    rw [c] at h
    have key : ∀ y ∈ ([QB, 125, 128, 129, 130, 131, 132] : List Nat), ¬ q = y := by
      intro y hy hk
      have : ([QB, 125, 128, 129, 130, 131, 132] : List Nat).any (fun x => Nat.beq x q) = true := List.any_eq_true.mpr ⟨y, hy, by rw [hk]; exact Nat.beq_refl y⟩
      have h2 : ([QB, 125, 128, 129, 130, 131, 132] : List Nat).any (fun x => Nat.beq x q) = false := h
      rw [this] at h2
      cases h2
    exact Or.inl ⟨key QB (by simp), key 125 (by simp), key 128 (by simp), key 129 (by simp), key 130 (by simp), key 131 (by simp), key 132 (by simp)⟩
theorem iEq_put {QB : Nat} (hQ : ¬ QB = 94 ∧ ¬ QB = 125 ∧ ¬ QB = 128 ∧ ¬ QB = 129 ∧ ¬ QB = 130 ∧ ¬ QB = 131 ∧ ¬ QB = 132) {I : Nat → Nat → Int32} {q k : Nat} {x : Int32} (hf : feP (keptF QB q) k = false) (h : iEq QB I) : iEq QB (up2 I q k x) := by
  have hc := keptF_ok hf
  have h94 : q = 94 → ¬ k = 35 ∧ ¬ k = 52 ∧ ¬ k = 53 ∧ ¬ k = 60 ∧ ¬ k = 200 ∧ ¬ k = 201 ∧ ¬ k = 202 ∧ ¬ k = 203 ∧ ¬ k = 204 ∧ ¬ k = 205 ∧ ¬ k = 206 ∧ ¬ k = 207 := by
    intro e
    rcases hc with hc | hc
    · subst e
      unfold keptF at hf
      rw [Nat.beq_refl] at hf
      have key : ∀ y ∈ ([35, 52, 53, 60, 200, 201, 202, 203, 204, 205, 206, 207] : List Nat), ¬ k = y := by
        intro y hy hk
        have : ([35, 52, 53, 60, 200, 201, 202, 203, 204, 205, 206, 207] : List Nat).any (fun y => Nat.beq y k) = true := List.any_eq_true.mpr ⟨y, hy, by rw [hk]; exact Nat.beq_refl y⟩
        have h2 : ([35, 52, 53, 60, 200, 201, 202, 203, 204, 205, 206, 207] : List Nat).any (fun y => Nat.beq y k) = false := hf
        rw [this] at h2
        cases h2
      exact ⟨key 35 (by simp), key 52 (by simp), key 53 (by simp), key 60 (by simp), key 200 (by simp), key 201 (by simp), key 202 (by simp), key 203 (by simp), key 204 (by simp), key 205 (by simp), key 206 (by simp), key 207 (by simp)⟩
    · exact hc.2
  have hq : ¬ q = QB ∧ ¬ q = 125 ∧ ¬ q = 128 ∧ ¬ q = 129 ∧ ¬ q = 130 ∧ ¬ q = 131 ∧ ¬ q = 132 := by
    rcases hc with hc | hc
    · exact hc
    · obtain ⟨rfl, -⟩ := hc
      exact ⟨fun e => hQ.1 e.symm, by decide, by decide, by decide, by decide, by decide, by decide⟩
  obtain ⟨q1, q2, q3, q4, q5, q6, q7⟩ := hq
  refine ⟨e1_put hQ.1 q1 (fun e => (h94 e.1).2.2.2.1 e.2) h.1, e2_put ⟨q2, q3, q4, q5, q6, q7, fun e => ?_⟩ h.2.1, e3_far ?_ (fun k' hk' => up2_ne (fun e => ?_)) (fun k' _ => ⟨up2_ne (fun e => q6 e.1.symm), up2_ne (fun e => q7 e.1.symm)⟩) h.2.2⟩
  · have := h94 e.1
    omega
  · have : up2 I q k x 94 35 = I 94 35 := up2_ne (fun e => (h94 e.1.symm).1 e.2.symm)
    unfold nv
    rw [this]
    exact Nat.le_refl _
  · have := h94 e.1.symm
    omega
theorem iEq_own {QB : Nat} (hQ : ¬ QB = 94) {I : Nat → Nat → Int32} {rho : Nat → Int} {gs : List (Nat × aI)} (hg : ∀ e ∈ gs, 204 ≤ e.1 ∧ e.1 ≤ 207) (h : iEq QB I) (h3 : e3 (gI rho gs I)) : iEq QB (gI rho gs I) := by
  refine ⟨?_, ?_, h3⟩
  · intro s hs
    rw [gI_row hQ]
    rw [gI_ne (fun e he q => by have := hg e he; omega)] at hs
    exact h.1 s hs
  · have row : ∀ q, ¬ q = 94 → gI rho gs I q = I q := fun q h => gI_row h
    have m : ∀ k, k < 204 → gI rho gs I 94 k = I 94 k := fun k hk => gI_ne (fun e he q => by have := hg e he; omega)
    have h2 := h.2.1
    unfold e2 rowsOK curOK lineOK nv zv at h2 ⊢
    rw [row 125 (by decide), row 128 (by decide), row 129 (by decide), row 130 (by decide), row 131 (by decide), row 132 (by decide), m 35 (by decide), m 52 (by decide), m 53 (by decide), m 200 (by decide), m 201 (by decide), m 202 (by decide), m 203 (by decide)]
    exact h2
def e3chk (A : aS) (gs : List (Nat × aI)) (q : Nat) (x z : aI) : Bool := (bif Nat.beq q 131 || Nat.beq q 132 then (match pl94 A 35, pl94 A 52 with
    | some ru, some ro => pva A (nsb x (nsc 270 ro)) && (pva A (nsb ro ru) && pva A ru)
    | _, _ => false) else true) && ((bif Nat.beq q 94 then (neq x (nK 52) || (neq x (nK 53) || (neq x (nK 35) && (match pl94 A 35 with
    | some ru => neq z (nad ru (nK 1)) && pva A ru
    | none => false)))) else true) && gs.all (fun e => Nat.ble 111 e.1 && Nat.ble e.1 203))
theorem e3chk_ok {A : aS} {gs : List (Nat × aI)} {q : Nat} {x z : aI} (h : e3chk A gs q x z = true) {rho : Nat → Int} {I : Nat → Nat → Int32} {k : Int32} (hB : bOK A.2.2.1 rho) (hF : cOK A.2.2.1.1 rho A.2.2.2.2.1) (hP : pOK A.2.2.1.1 rho A.2.2.2.1 I) (hx : nb A.2.2.1.1 x) (hk : k.toInt = fvl rho z) (h3 : e3 I) : e3 (gI rho gs (up2 I q (fvl rho x).toNat k)) := by
  have pv : ∀ {a : aI}, nb A.2.2.1.1 a → pva A a = true → 0 ≤ fvl rho a := fun ha hp => prv_ok hB hF ha hp
  unfold e3chk at h
  rw [Bool.and_eq_true, Bool.and_eq_true] at h
  obtain ⟨h1, h2, h4⟩ := h
  have hg : ∀ e ∈ gs, 111 ≤ e.1 ∧ e.1 ≤ 203 := by
    intro e he
    have := List.all_eq_true.mp h4 e he
    rw [Bool.and_eq_true] at this
    exact ⟨Nat.le_of_ble_eq_true this.1, Nat.le_of_ble_eq_true this.2⟩
  have hq94 : q = 94 → (fvl rho x).toNat = 52 ∨ (fvl rho x).toNat = 53 ∨ (fvl rho x).toNat = 35 ∧ k.toInt = zv I 94 35 + 1 ∧ 0 ≤ zv I 94 35 := by
    intro e
    subst e
    rw [Nat.beq_refl] at h2
    simp only [cond_true, Bool.or_eq_true, Bool.and_eq_true] at h2
    rcases h2 with h2 | h2 | h2
    · have := neq_ok h2
      subst this
      rw [fvl_K]
      exact Or.inl rfl
    · have := neq_ok h2
      subst this
      rw [fvl_K]
      exact Or.inr (Or.inl rfl)
    · have := neq_ok h2.1
      subst this
      have h5 := h2.2
      split at h5
      · next ru eru =>
        rw [Bool.and_eq_true] at h5
        obtain ⟨nru, vru⟩ := pl94_ok hP eru
        have ez := neq_ok h5.1
        subst ez
        have v := pv nru h5.2
        rw [fvl_ad, fvl_K, vru] at hk
        rw [vru] at v
        rw [fvl_K]
        exact Or.inr (Or.inr ⟨rfl, hk, v⟩)
      · cases h5
  have h35 : gI rho gs (up2 I q (fvl rho x).toNat k) 94 35 = up2 I q (fvl rho x).toNat k 94 35 := gI_ne (fun e he w => by have := hg e he; omega)
  refine e3_far ?_ (fun k' hk' => ?_) (fun k' hk' => ?_) h3
  · unfold nv
    rw [h35]
    by_cases e : q = 94 ∧ (fvl rho x).toNat = 35
    · obtain ⟨rfl, e2⟩ := e
      rw [e2, up2_eq]
      rcases hq94 rfl with w | w | ⟨-, w, w0⟩
      · omega
      · omega
      · unfold zv at w w0
        omega
    · rw [up2_ne (fun w => e ⟨w.1.symm, w.2.symm⟩)]
      exact Nat.le_refl _
  · rw [gI_ne (fun e he w => by have := hg e he; omega)]
    refine up2_ne (fun w => ?_)
    rcases hq94 w.1.symm with w2 | w2 | ⟨w2, -⟩ <;> omega
  · have one : ∀ q', q' = 131 ∨ q' = 132 → gI rho gs (up2 I q (fvl rho x).toNat k) q' k' = I q' k' := by
      intro q' hq'
      rw [gI_row (by omega)]
      refine up2_ne (fun w => ?_)
      have hqq : (Nat.beq q 131 || Nat.beq q 132) = true := by
        rw [← w.1, Bool.or_eq_true]
        rcases hq' with e | e
        · exact Or.inl (by rw [e]; rfl)
        · exact Or.inr (by rw [e]; rfl)
      rw [hqq] at h1
      simp only [cond_true] at h1
      split at h1
      · next ru ro eru ero =>
        rw [Bool.and_eq_true, Bool.and_eq_true] at h1
        obtain ⟨nru, vru⟩ := pl94_ok hP eru
        obtain ⟨nro, vro⟩ := pl94_ok hP ero
        have v1 := pv (nb_sb hx (nb_sc nro)) h1.1
        have v2 := pv (nb_sb nro nru) h1.2.1
        have v3 := pv nru h1.2.2
        rw [fvl_sb, fvl_sc, vro] at v1
        rw [fvl_sb, vro, vru] at v2
        rw [vru] at v3
        unfold nv at hk'
        unfold zv at v1 v2 v3
        omega
      · cases h1
    exact ⟨one 131 (Or.inl rfl), one 132 (Or.inr rfl)⟩
noncomputable def kchk3 (tab : List ((Nat × Nat) × Nat)) (A : aS) : Option (List (Nat × aI)) := match kchk tab A, stOf A with
  | some gs, some (q, x, z) => bif e3chk A gs q x z then some gs else none
  | _, _ => none
theorem kchk3_ok {QB : Nat} (hQ : ¬ QB = 94 ∧ ¬ QB = 125 ∧ ¬ QB = 128 ∧ ¬ QB = 129 ∧ ¬ QB = 130 ∧ ¬ QB = 131 ∧ ¬ QB = 132) {tab : List ((Nat × Nat) × Nat)} {A : aS} {gs : List (Nat × aI)} {q : Nat} {x z : aI} (h : kchk3 tab A = some gs) (hst : stOf A = some (q, x, z)) {rho : Nat → Int} {I : Nat → Nat → Int32} {k : Int32} (hB : bOK A.2.2.1 rho) (hF : cOK A.2.2.1.1 rho A.2.2.2.2.1) (hP : pOK A.2.2.1.1 rho A.2.2.2.1 I) (hx : nb A.2.2.1.1 x) (hz : nb A.2.2.1.1 z) (hx0 : 0 ≤ fvl rho x) (hk : k.toInt = fvl rho z) (hgs : ∀ e ∈ gs, nb A.2.2.1.1 e.2 ∧ lo32 ≤ fvl rho e.2 ∧ fvl rho e.2 ≤ hi32) (hi : iEq QB I) : iEq QB (gI rho gs (up2 I q (fvl rho x).toNat k)) := by
  unfold kchk3 at h
  rw [hst] at h
  split at h
  · next gs' q' x' z' hk' e =>
    cases e
    obtain ⟨g, h8⟩ := bif_o h
    cases h8
    obtain ⟨a1, a2⟩ := kchk_ok hQ hk' hst hB hF hP hx hz hx0 hk hgs hi.1 hi.2.1
    exact ⟨a1, a2, e3chk_ok g hB hF hP hx hk hi.2.2⟩
  · cases h
/-- split by the sign of a place of the model -/
def spX (tab : List (Nat × Nat)) (pl : Nat) (A : aS) : Option (List aS) := bif tab.any (fun e => Nat.beq e.1 A.1.1 && Nat.beq e.2 A.1.2.1) then (match pl94 A pl with
  | some (c, [e]) => bif ieq e.2 1 && (ile ((gtv A.2.2.1 e.1).1 + c) (-1) && ile 0 ((gtv A.2.2.1 e.1).2 + c)) then some [(A.1, A.2.1, (A.2.2.1.1, (e.1, (gtv A.2.2.1 e.1).1, -1 - c) :: A.2.2.1.2), A.2.2.2.1, A.2.2.2.2.1, A.2.2.2.2.2), (A.1, A.2.1, (A.2.2.1.1, (e.1, -c, (gtv A.2.2.1 e.1).2) :: A.2.2.1.2), A.2.2.2.1, A.2.2.2.2.1, A.2.2.2.2.2)] else none
  | _ => none) else none
theorem spX_ok {T : aT} {E : mW → Prop} {md : aM} {Z : aZ} {av : List Value} {I0 : Nat → Nat → Int32} {dd : Nat} {tab : List (Nat × Nat)} {pl : Nat} {A : aS} {As : List aS} (h : spX tab pl A = some As) : Snd T E md Z av I0 dd A As := by
  intro rho C hS K
  obtain ⟨hf, hfs, hB, hP, hF, hG, hw, hI⟩ := hS
  unfold spX at h
  obtain ⟨-, h9⟩ := bif_o h
  clear h
  split at h9
  · next c e he =>
    obtain ⟨g, h8⟩ := bif_o h9
    cases h8
    rw [Bool.and_eq_true] at g
    have ge := ieq_iff.mp g.1
    obtain ⟨np, -⟩ := pl94_ok hP he
    have hx : e.1 < A.2.2.1.1 := np e (List.mem_singleton_self _)
    have hg := gtv_ok hB hx
    have one : ∀ l u : Int, l ≤ rho e.1 → rho e.1 ≤ u → bOK (A.2.2.1.1, (e.1, l, u) :: A.2.2.1.2) rho := by
      intro l u h1 h2
      refine ⟨hB.1, fun d hd => ?_⟩
      rcases List.mem_cons.mp hd with rfl | hd
      · exact ⟨hx, h1, h2⟩
      · exact hB.2 d hd
    by_cases c0 : rho e.1 + c ≤ -1
    · exact K _ List.mem_cons_self rho C (agr.refl _ _) ⟨hf, hfs, one _ _ hg.1 (by omega), hP, hF, hG, hw, hI⟩
    · exact K _ (List.mem_cons_of_mem _ (List.mem_singleton_self _)) rho C (agr.refl _ _) ⟨hf, hfs, one _ _ (by omega) hg.2, hP, hF, hG, hw, hI⟩
  · cases h9
