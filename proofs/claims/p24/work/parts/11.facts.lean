/-! ===== what the tables say of classes and of methods ===== -/
/-- a word that stays as the machine warms -/
noncomputable def wk (w : Cond) : Bool := match w with
  | .methodLinkNest _ _ _ _ => true
  | .arrayOver (.array _) => true
  | .castable _ _ => true
  | w => goodWord w
noncomputable def lw_tbk : List Cond := lw_tbl.filter wk
theorem tbk_of {w : Cond} (h : w ∈ lw_tbl) (hk : wk w = true) : w ∈ lw_tbk := List.mem_filter.mpr ⟨h, hk⟩
theorem rng_in {n : Nat} {A B : Nat → Option Cond} (e : (List.range n).map A = (List.range n).map B) {k : Nat} (hk : k < n) : A k = B k := by
  have h1 : ((List.range n).map A)[k]? = ((List.range n).map B)[k]? := by rw [e]
  rw [List.getElem?_map, List.getElem?_map, List.getElem?_range hk] at h1
  exact Option.some.inj h1
theorem fw_at {n : Nat} {g : List Nat} {C : Nat → Cond} (e : pickW lw_tbl g = (List.range n).map (fun k => some (C k))) : ∀ k, k < n → C k ∈ lw_tbl := fun k hk => pick_mem (gs := g) (by rw [e]; exact List.mem_map.mpr ⟨k, List.mem_range.mpr hk, rfl⟩)
/-- a list of classes, each with what is known of it -/
theorem cls_all {P : String × List mFl → Prop} (h0 : P ("PointsHome", mf_0)) (h1 : P ("PointsHome$Places", mf_1)) (h2 : P ("PointsHome$Bodies", mf_2)) (h3 : P ("PointsHome$Shelves", mf_3)) (h4 : P ("PointsHome$Files", mf_4)) (h5 : P ("PointsHome$Tape", mf_5)) (h6 : P ("PointsHome$Rules", mf_6)) (h7 : P ("PointsHome$Fleet", mf_7)) (h8 : P ("PointsHome$Relief", mf_8)) (h9 : P ("PointsHome$Voyages", mf_9)) (h10 : P ("PointsHome$Shutting", mf_10)) (h11 : P ("PointsHome$Line", mf_11)) (h12 : P ("PointsHomeModel", mf_12)) {a : Nat} {q : String × List mFl} (h : mF[a]? = some q) : P q := by
  match a, h with
  | 0, h => cases h; exact h0
  | 1, h => cases h; exact h1
  | 2, h => cases h; exact h2
  | 3, h => cases h; exact h3
  | 4, h => cases h; exact h4
  | 5, h => cases h; exact h5
  | 6, h => cases h; exact h6
  | 7, h => cases h; exact h7
  | 8, h => cases h; exact h8
  | 9, h => cases h; exact h9
  | 10, h => cases h; exact h10
  | 11, h => cases h; exact h11
  | 12, h => cases h; exact h12
  | a + 13, h => simp [mF] at h
theorem u_in {C : String} {fl : List mFl} (h : ∀ k, k < fl.length → u_lay C (fTof C fl) k ∈ lw_tbl) : ∀ w ∈ u_ws C (fTof C fl) fl.length, w ∈ lw_tbk := by
  intro w hw
  obtain ⟨k, hk, rfl⟩ := List.mem_map.mp hw
  exact tbk_of (h k (List.mem_range.mp hk)) (by unfold u_lay; split <;> rfl)
theorem okK_in {a : Nat} {q : String × List mFl} (h : mF[a]? = some q) : ∀ w ∈ u_ws q.1 (fTof q.1 q.2) q.2.length, w ∈ lw_tbk :=
  cls_all (P := fun q => ∀ w ∈ u_ws q.1 (fTof q.1 q.2) q.2.length, w ∈ lw_tbk) (u_in (fw_at fw_0)) (u_in (fw_at fw_1)) (u_in (fw_at fw_2)) (u_in (fw_at fw_3)) (u_in (fw_at fw_4)) (u_in (fw_at fw_5)) (u_in (fw_at fw_6)) (u_in (fw_at fw_7)) (u_in (fw_at fw_8)) (u_in (fw_at fw_9)) (u_in (fw_at fw_10)) (u_in (fw_at fw_11)) (u_in (fw_at fw_12)) h
theorem okK_ins {a : Nat} {q : String × List mFl} (h : mF[a]? = some q) : Cond.instantiable q.1 q.2.length ∈ lw_tbk :=
  cls_all (P := fun q => Cond.instantiable q.1 q.2.length ∈ lw_tbk) (tbk_of iw_0 rfl) (tbk_of iw_1 rfl) (tbk_of iw_2 rfl) (tbk_of iw_3 rfl) (tbk_of iw_4 rfl) (tbk_of iw_5 rfl) (tbk_of iw_6 rfl) (tbk_of iw_7 rfl) (tbk_of iw_8 rfl) (tbk_of iw_9 rfl) (tbk_of iw_10 rfl) (tbk_of iw_11 rfl) (tbk_of iw_12 rfl) h
theorem okK_ini {a : Nat} {q : String × List mFl} (h : mF[a]? = some q) : Cond.initialized q.1 ∈ lw_tbk :=
  cls_all (P := fun q => Cond.initialized q.1 ∈ lw_tbk) (tbk_of nw_0 rfl) (tbk_of nw_1 rfl) (tbk_of nw_2 rfl) (tbk_of nw_3 rfl) (tbk_of nw_4 rfl) (tbk_of nw_5 rfl) (tbk_of nw_6 rfl) (tbk_of nw_7 rfl) (tbk_of nw_8 rfl) (tbk_of nw_9 rfl) (tbk_of nw_10 rfl) (tbk_of nw_11 rfl) (tbk_of nw_12 rfl) h
theorem okK_ty {a : Nat} {q : String × List mFl} (h : mF[a]? = some q) : ∀ k, k < q.2.length → parseFieldDescriptor (fTof q.1 q.2 k).2.2.1 = some (ftyOf q.2 k) := by
  intro k hk
  have := List.all_eq_true.mp kk_ok q (List.mem_of_getElem? h)
  have := List.all_eq_true.mp this k (List.mem_range.mpr hk)
  simp only [Bool.and_eq_true] at this
  exact of_decide_eq_true this.1
theorem okK_tk {a : Nat} {q : String × List mFl} (h : mF[a]? = some q) : ∀ k, k < q.2.length → tk (ftyOf q.2 k) < 3 := by
  intro k hk
  have := List.all_eq_true.mp kk_ok q (List.mem_of_getElem? h)
  have := List.all_eq_true.mp this k (List.mem_range.mpr hk)
  simp only [Bool.and_eq_true] at this
  exact of_decide_eq_true this.2
theorem nm_of {C : String} {fl : List mFl} (h : (fl.map (fun f => f.1)).Nodup) : ∀ a, a < fl.length → ∀ b, b < fl.length → a ≠ b → (fTof C fl a).2.1 ≠ (fTof C fl b).2.1 := by
  intro a ha b hb hne e
  unfold fTof at e
  rw [List.getElem?_eq_getElem ha, List.getElem?_eq_getElem hb] at e
  dsimp only at e
  refine hne ((List.getElem_inj (xs := fl.map (fun f => f.1)) (h₀ := by simpa using ha) (h₁ := by simpa using hb) h).mp ?_)
  simpa using e
theorem okK_nm {a : Nat} {q : String × List mFl} (h : mF[a]? = some q) : ∀ a, a < q.2.length → ∀ b, b < q.2.length → a ≠ b → (fTof q.1 q.2 a).2.1 ≠ (fTof q.1 q.2 b).2.1 :=
  cls_all (P := fun q => ∀ a, a < q.2.length → ∀ b, b < q.2.length → a ≠ b → (fTof q.1 q.2 a).2.1 ≠ (fTof q.1 q.2 b).2.1) (nm_of nm_0) (nm_of nm_1) (nm_of nm_2) (nm_of nm_3) (nm_of nm_4) (nm_of nm_5) (nm_of nm_6) (nm_of nm_7) (nm_of nm_8) (nm_of nm_9) (nm_of nm_10) (nm_of nm_11) (nm_of nm_12) h
