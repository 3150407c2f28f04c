/-! ===== the first world; the law from its entry (wip/gen48.py) ===== -/
def evI : List (Nat × Nat × Int32) → Nat → Nat → Int32
  | [] => mz32
  | e :: l => up2 (evI l) e.1 e.2.1 e.2.2
def lst26 : List (Nat × Nat × Int32) := [(166, 7, (-1)), (166, 6, (-1)), (166, 5, (-1)), (166, 4, (-1)), (166, 3, (-1)), (166, 2, (-1)), (166, 1, (-1)), (166, 0, (-1)), (94, 99, (-1)), (94, 89, (-1)), (94, 75, (-1)), (94, 32, (-1)), (38, 199, (-1)), (38, 198, (-1)), (38, 197, (-1)), (38, 196, (-1)), (38, 195, (-1)), (38, 194, (-1)), (38, 193, (-1)), (38, 192, (-1)), (38, 191, (-1)), (38, 190, (-1)), (38, 189, (-1)), (38, 188, (-1)), (38, 187, (-1)), (38, 186, (-1)), (38, 185, (-1)), (38, 184, (-1)), (38, 183, (-1)), (38, 182, (-1)), (38, 181, (-1)), (38, 180, (-1)), (38, 179, (-1)), (38, 178, (-1)), (38, 177, (-1)), (38, 176, (-1)), (38, 175, (-1)), (38, 174, (-1)), (38, 173, (-1)), (38, 172, (-1)), (38, 171, (-1)), (38, 170, (-1)), (38, 169, (-1)), (38, 168, (-1)), (38, 167, (-1)), (38, 166, (-1)), (38, 165, (-1)), (38, 164, (-1)), (38, 163, (-1)), (38, 162, (-1)), (38, 161, (-1)), (38, 160, (-1)), (38, 159, (-1)), (38, 158, (-1)), (38, 157, (-1)), (38, 156, (-1)), (38, 155, (-1)), (38, 154, (-1)), (38, 153, (-1)), (38, 152, (-1)), (38, 151, (-1)), (38, 150, (-1)), (38, 149, (-1)), (38, 148, (-1)), (38, 147, (-1)), (38, 146, (-1)), (38, 145, (-1)), (38, 144, (-1)), (38, 143, (-1)), (38, 142, (-1)), (38, 141, (-1)), (38, 140, (-1)), (38, 139, (-1)), (38, 138, (-1)), (38, 137, (-1)), (38, 136, (-1)), (38, 135, (-1)), (38, 134, (-1)), (38, 133, (-1)), (38, 132, (-1)), (38, 131, (-1)), (38, 130, (-1)), (38, 129, (-1)), (38, 128, (-1)), (38, 127, (-1)), (38, 126, (-1)), (38, 125, (-1)), (38, 124, (-1)), (38, 123, (-1)), (38, 122, (-1)), (38, 121, (-1)), (38, 120, (-1)), (38, 119, (-1)), (38, 118, (-1)), (38, 117, (-1)), (38, 116, (-1)), (38, 115, (-1)), (38, 114, (-1)), (38, 113, (-1)), (38, 112, (-1)), (38, 111, (-1)), (38, 110, (-1)), (38, 109, (-1)), (38, 108, (-1)), (38, 107, (-1)), (38, 106, (-1)), (38, 105, (-1)), (38, 104, (-1)), (38, 103, (-1)), (38, 102, (-1)), (38, 101, (-1)), (38, 100, (-1)), (38, 99, (-1)), (38, 98, (-1)), (38, 97, (-1)), (38, 96, (-1)), (38, 95, (-1)), (38, 94, (-1)), (38, 93, (-1)), (38, 92, (-1)), (38, 91, (-1)), (38, 90, (-1)), (38, 89, (-1)), (38, 88, (-1)), (38, 87, (-1)), (38, 86, (-1)), (38, 85, (-1)), (38, 84, (-1)), (38, 83, (-1)), (38, 82, (-1)), (38, 81, (-1)), (38, 80, (-1)), (38, 79, (-1)), (38, 78, (-1)), (38, 77, (-1)), (38, 76, (-1)), (38, 75, (-1)), (38, 74, (-1)), (38, 73, (-1)), (38, 72, (-1)), (38, 71, (-1)), (38, 70, (-1)), (38, 69, (-1)), (38, 68, (-1)), (38, 67, (-1)), (38, 66, (-1)), (38, 65, (-1)), (38, 64, (-1)), (38, 63, (-1)), (38, 62, (-1)), (38, 61, (-1)), (38, 60, (-1)), (38, 59, (-1)), (38, 58, (-1)), (38, 57, (-1)), (38, 56, (-1)), (38, 55, (-1)), (38, 54, (-1)), (38, 53, (-1)), (38, 52, (-1)), (38, 51, (-1)), (38, 50, (-1)), (38, 49, (-1)), (38, 48, (-1)), (38, 47, (-1)), (38, 46, (-1)), (38, 45, (-1)), (38, 44, (-1)), (38, 43, (-1)), (38, 42, (-1)), (38, 41, (-1)), (38, 40, (-1)), (38, 39, (-1)), (38, 38, (-1)), (38, 37, (-1)), (38, 36, (-1)), (38, 35, (-1)), (38, 34, (-1)), (38, 33, (-1)), (38, 32, (-1)), (38, 31, (-1)), (38, 30, (-1)), (38, 29, (-1)), (38, 28, (-1)), (38, 27, (-1)), (38, 26, (-1)), (38, 25, (-1)), (38, 24, (-1)), (38, 23, (-1)), (38, 22, (-1)), (38, 21, (-1)), (38, 20, (-1)), (38, 19, (-1)), (38, 18, (-1)), (38, 17, (-1)), (38, 16, (-1)), (38, 15, (-1)), (38, 14, (-1)), (38, 13, (-1)), (38, 12, (-1)), (38, 11, (-1)), (38, 10, (-1)), (38, 9, (-1)), (38, 8, (-1)), (38, 7, (-1)), (38, 6, (-1)), (38, 5, (-1)), (38, 4, (-1)), (38, 3, (-1)), (38, 2, (-1)), (38, 1, (-1)), (38, 0, (-1)), (31, 12, 600), (31, 3, (-1)), (27, 7, (-1)), (27, 6, (-1)), (27, 5, (-1)), (27, 4, (-1)), (27, 3, (-1)), (27, 2, (-1)), (27, 1, (-1)), (27, 0, (-1))]
set_option maxRecDepth 100000 in
theorem ev26 : mI_26 = evI lst26 := rfl
theorem evI_mem : ∀ {l : List (Nat × Nat × Int32)} {q k : Nat}, evI l q k = 0 ∨ (q, k, evI l q k) ∈ l
  | [], q, k => Or.inl rfl
  | e :: l, q, k => by
    obtain ⟨a, b, v⟩ := e
    show up2 (evI l) a b v q k = 0 ∨ (q, k, up2 (evI l) a b v q k) ∈ (a, b, v) :: l
    by_cases c : q = a ∧ k = b
    · obtain ⟨rfl, rfl⟩ := c
      have h : up2 (evI l) q k v q k = v := by unfold up2; rw [if_pos rfl, if_pos rfl]
      rw [h]
      exact Or.inr List.mem_cons_self
    · rw [up2_ne c]
      rcases evI_mem (l := l) (q := q) (k := k) with h | h
      · exact Or.inl h
      · exact Or.inr (List.mem_cons_of_mem _ h)
set_option maxRecDepth 100000 in
theorem vS_26 : (List.range 176).all (fun q => decide (vS q = sh_26[q]?)) = true := by decide +kernel
theorem vS_far {q : Nat} (h : 176 ≤ q) : vS q = none := by
  unfold vS
  rw [List.getElem?_eq_none (by show 11 ≤ q / 16; omega)]
  rfl
def vrow (q : Nat) : Option (List (Option Nat)) := (([vr_0, vr_1, vr_2, vr_3, vr_4, vr_5, vr_6, vr_7, vr_8, vr_9, vr_10] : List (List (List (Option Nat))))[q / 16]?).bind (fun l => l[q % 16]?)
theorem vR_row {q k : Nat} : vR q k = (vrow q).bind (fun r => (r[k]?).getD none) := rfl
set_option maxRecDepth 100000 in
theorem vR_26 : (List.range 176).all (fun q => match vrow q with
  | none => true
  | some r => (List.range r.length).all (fun k => match (r[k]?).getD none with
    | none => true
    | some z => decide (mR_26 q k = some z))) = true := by decide +kernel
theorem vrow_far {q : Nat} (h : 176 ≤ q) : vrow q = none := by
  unfold vrow
  rw [List.getElem?_eq_none (by show 11 ≤ q / 16; omega)]
  rfl
set_option maxRecDepth 100000 in
theorem z_26 : (List.range 176).all (fun q => match vG q with
  | .inl r => ile r.1 0 && ile 0 r.2
  | .inr l => (List.range l.length).all (fun k => match l[k]? with
    | some r => (ile r.1 0 && ile 0 r.2) || !(decide (evI lst26 q k = 0))
    | none => true)) = true := by decide +kernel
set_option maxRecDepth 100000 in
theorem n_26 : lst26.all (fun e => ile (rg (mkT vV []) e.1 e.2.1).1 e.2.2.toInt && ile e.2.2.toInt (rg (mkT vV []) e.1 e.2.1).2) = true := by decide +kernel
theorem vG_f {z : Nat} (h : 176 ≤ z) : vG z = .inl (lo32, hi32) := by
  unfold vG
  rw [List.getElem?_eq_none (by show 11 ≤ z / 16; omega)]
  rfl
theorem rg_26 (q k : Nat) : (rg (mkT vV []) q k).1 ≤ (mI_26 q k).toInt ∧ (mI_26 q k).toInt ≤ (rg (mkT vV []) q k).2 := by
  rw [ev26]
  by_cases c : 176 ≤ q
  · have e : rg (mkT vV []) q k = (lo32, hi32) := by
      show (match vG q with
        | .inl r => r
        | .inr l => l.getD k (lo32, hi32)) = _
      rw [vG_f c]
    rw [e]
    exact i32b _
  rcases evI_mem (l := lst26) (q := q) (k := k) with h0 | h1
  · have hz := List.all_eq_true.mp z_26 q (List.mem_range.mpr (by omega))
    rw [h0]
    have z0 : (0 : Int32).toInt = 0 := rfl
    rw [z0]
    show (match vG q with
        | .inl r => r
        | .inr l => l.getD k (lo32, hi32)).1 ≤ 0 ∧ 0 ≤ (match vG q with
        | .inl r => r
        | .inr l => l.getD k (lo32, hi32)).2
    split at hz
    · next r hr =>
      rw [Bool.and_eq_true, ile_iff, ile_iff] at hz
      exact hz
    · next l hr =>
      by_cases hk : k < l.length
      · have h2 := List.all_eq_true.mp hz k (List.mem_range.mpr hk)
        rw [List.getElem?_eq_getElem hk] at h2
        rw [List.getD_eq_getElem?_getD, List.getElem?_eq_getElem hk]
        simp only [Bool.or_eq_true, Bool.and_eq_true, ile_iff, Bool.not_eq_true', decide_eq_false_iff_not] at h2
        rcases h2 with h2 | h2
        · exact h2
        · exact absurd h0 h2
      · rw [List.getD_eq_getElem?_getD, List.getElem?_eq_none (by omega)]
        exact ⟨by decide, by decide⟩
  · have h2 := List.all_eq_true.mp n_26 _ h1
    rw [Bool.and_eq_true, ile_iff, ile_iff] at h2
    exact h2
set_option maxRecDepth 100000 in
theorem rows_26 : (List.range 20).all (fun k => decide (mR_26 50 k = none)) = true := by decide +kernel
set_option maxRecDepth 100000 in
theorem iE_26 : iEq 135 mI_26 := by
  have a : ∀ k, k = 35 ∨ k = 60 ∨ k = 201 ∨ k = 204 ∨ k = 205 ∨ k = 206 ∨ k = 207 → mI_26 94 k = 0 := by
    intro k hk
    rcases hk with rfl | rfl | rfl | rfl | rfl | rfl | rfl <;> decide +kernel
  have n : ∀ k, k = 35 ∨ k = 60 ∨ k = 201 ∨ k = 204 ∨ k = 205 ∨ k = 206 ∨ k = 207 → nv mI_26 94 k = 0 := by
    intro k hk
    unfold nv
    rw [a k hk]
    rfl
  have z0 : (0 : Int32).toInt = 0 := rfl
  refine ⟨fun s hs => ?_, ⟨fun r i hr => ?_, fun h => ?_⟩, ?_⟩
  · rw [a 60 (by simp), z0] at hs
    omega
  · rw [n 35 (by simp)] at hr
    omega
  · unfold zv at h
    rw [a 201 (by simp), z0] at h
    omega
  · unfold e3
    rw [n 206 (by simp), n 205 (by simp), n 207 (by simp)]
    refine ⟨Nat.zero_le _, fun m hm => by omega, Nat.le_refl _, Nat.le_refl _, ?_⟩
    show (0 : Int) = zv mI_26 94 204
    unfold zv
    rw [a 204 (by simp)]
    rfl
theorem hw26 : wOK (mkT vV []) (wE sh_26 mR_26) w_26 := by
  refine ⟨fun q e he => ?_, fun q k z hz => ?_, rg_26, rfl, rfl, fun k hk => Or.inl ?_, iE_26⟩
  · have he : vS q = some e := he
    by_cases c : 176 ≤ q
    · rw [vS_far c] at he
      cases he
    · have := of_decide_eq_true (List.all_eq_true.mp vS_26 q (List.mem_range.mpr (by omega)))
      show sh_26[q]? = some e
      rw [← this]
      exact he
  · have hz : vR q k = some z := hz
    rw [vR_row] at hz
    by_cases c : 176 ≤ q
    · rw [vrow_far c] at hz
      cases hz
    · have h1 := List.all_eq_true.mp vR_26 q (List.mem_range.mpr (by omega))
      cases hr : vrow q with
      | none => rw [hr] at hz; cases hz
      | some r =>
        rw [hr] at hz h1
        have hz : (r[k]?).getD none = some z := hz
        have hk : k < r.length := by
          by_cases c2 : k < r.length
          · exact c2
          · rw [List.getElem?_eq_none (by omega)] at hz
            cases hz
        have h2 := List.all_eq_true.mp h1 k (List.mem_range.mpr hk)
        rw [hz] at h2
        exact of_decide_eq_true h2
  · exact of_decide_eq_true (List.all_eq_true.mp rows_26 k (List.mem_range.mpr hk))
theorem ev_z {q : Nat} (h : lst26.all (fun e => !(Nat.beq e.1 q)) = true) (k : Nat) : mI_26 q k = 0 := by
  rw [ev26]
  rcases evI_mem (l := lst26) (q := q) (k := k) with h0 | h1
  · exact h0
  · have h2 := List.all_eq_true.mp h _ h1
    dsimp only at h2
    rw [Nat.beq_refl] at h2
    cases h2
set_option maxRecDepth 100000 in
theorem law_all {Ln : Nat} {xs : Nat → Int32} (hL : Ln ≤ 3072) : XF (some (Ln, xs)) 91 682 171723 Qone (371, 0, [(0, .retAddr 0)], []) [] w_0 := by
  refine law_made _ _ ?_
  unfold XF
  intro hf M hM
  obtain rfl : M = mr_371 := Option.some.inj (hM.symm.trans rfl)
  exact law_loop hL 512 0 w_26 (by decide) (by decide) (by show (Ln : Int) - 0 ≤ 6 * 512; omega) ⟨hf, ⟨sh_26, mR_26, hw26⟩, ⟨(show mI_26 1 1 = mI_26 94 2 by decide +kernel), (show mI_26 1 0 = mI_26 94 1 by decide +kernel), (show mI_26 41 0 = mI_26 94 34 by decide +kernel), fun k => (ev_z (q := 42) (by decide +kernel) k).trans (ev_z (q := 122) (by decide +kernel) k).symm, (show mI_26 47 3 = mI_26 94 35 by decide +kernel), fun k => (ev_z (q := 48) (by decide +kernel) k).trans (ev_z (q := 123) (by decide +kernel) k).symm, fun k => (ev_z (q := 49) (by decide +kernel) k).trans (ev_z (q := 124) (by decide +kernel) k).symm, RLf_first (w := w_26) (show (mI_26 1 1).toInt.toNat = 0 by decide +kernel) (fun a b _ _ => ⟨(ev_z (q := 5) (by decide +kernel) (20 * a + b)).trans (ev_z (q := 98) (by decide +kernel) (20 * a + b)).symm, (ev_z (q := 98) (by decide +kernel) (20 * b + a)).trans (ev_z (q := 98) (by decide +kernel) (20 * a + b)).symm⟩) (fun k => ev_z (q := 98) (by decide +kernel) k) (fun k => ev_z (q := 8) (by decide +kernel) k)⟩⟩
