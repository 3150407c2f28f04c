/-! ===== what the statement gives of the start: static tables, the String constant ===== -/
theorem fl_in {X : List Cond} {a n : Nat} {g : Nat → Cond} (h : (X.drop a).take n = (List.range n).map g) {j : Nat} (hj : j < n) : g j ∈ X :=
  List.mem_of_mem_drop (List.mem_of_mem_take (by rw [h]; exact List.mem_map.mpr ⟨j, List.mem_range.mpr hj, rfl⟩))
noncomputable def flG : List Cond := flatC (Jvm.Cond.and given_1 narrow_1)
set_option maxRecDepth 100000 in
theorem fl_abo : (flG.drop 7).take 8 = (List.range 8).map (fun j => Cond.eq (.elem (.static "PointsHome$Bodies" "ABOVE" "[I") (.int (Int32.ofNat j))) (.int (fABO j))) := rfl
set_option maxRecDepth 100000 in
theorem fl_own : (flG.drop 23).take 32 = (List.range 32).map (fun j => Cond.eq (.elem (.static "PointsHome$Bodies" "OWN_BODY" "[I") (.int (Int32.ofNat j))) (.int (fOWN j))) := rfl
set_option maxRecDepth 100000 in
theorem fl_nam : (flG.drop 58).take 10 = (List.range 10).map (fun j => Cond.eq (.elem (.static "PointsHomeModel" "NAMES" "[J") (.int (Int32.ofNat j))) (.long (fNAM j))) := rfl
set_option maxRecDepth 100000 in
theorem fl_wrd : (flG.drop 72).take 97 = (List.range 97).map (fun j => Cond.eq (.elem (.field (.string "PointsHome$Tape" 87) "java/lang/String" "value" "[B") (.int (Int32.ofNat j))) (.int (bytW.getD j 0))) := rfl
section START
variable {args : Array Value} {s : State}
theorem st_A : ∀ a : Nat, a < s.heap.size → ¬ (fun q => s.heap.size ≤ q) a := fun a h q => absurd h (Nat.not_lt.mpr q)
theorem stX_of {C n : String} {L : Nat} {f : Nat → Int32} (hN : L < 2 ^ 31) (hl : (Cond.laysStatic C n "[I").before args s = true) (hini : (Cond.initialized C).before args s = true) (harr : (Cond.arrayOf (.static C n "[I") .int).before args s = true) (hlen : (Cond.eq (.length (.static C n "[I")) (.int (Int32.ofNat L))).before args s = true) (hel : ∀ j : Nat, j < L → (Cond.eq (.elem (.static C n "[I") (.int (Int32.ofNat j))) (.int (f j))).before args s = true) : stX C n L f s.heap.size s := by
  obtain ⟨t, ht, hT⟩ := va_Tof (f := fun j => .int (f j)) (A := fun q => s.heap.size ≤ q) hN harr (va_eqt hlen) (fun j hj => va_eqt (hel j hj)) st_A
  obtain ⟨cell, h1, h2, h3, h4, h5, h6, h7⟩ := hT
  exact ⟨t, Nat.lt_of_not_le h7, va_Zof hl hini ht st_A, cell, h1, h2, h3, ⟨h4, h5⟩, h6⟩
theorem stJ_of {C n : String} {L : Nat} {f : Nat → Int64} (hN : L < 2 ^ 31) (hl : (Cond.laysStatic C n "[J").before args s = true) (hini : (Cond.initialized C).before args s = true) (harr : (Cond.arrayOf (.static C n "[J") .long).before args s = true) (hlen : (Cond.eq (.length (.static C n "[J")) (.int (Int32.ofNat L))).before args s = true) (hel : ∀ j : Nat, j < L → (Cond.eq (.elem (.static C n "[J") (.int (Int32.ofNat j))) (.long (f j))).before args s = true) : stJ C n L f s.heap.size s := by
  obtain ⟨t, ht, hT⟩ := va_Tof (f := fun j => .long (f j)) (A := fun q => s.heap.size ≤ q) hN harr (va_eqt hlen) (fun j hj => va_eqtl (hel j hj)) st_A
  have h7 := hT.choose_spec.2.2.2.2.2.2
  exact ⟨t, Nat.lt_of_not_le h7, va_Zof hl hini ht st_A, hT⟩
set_option maxRecDepth 100000 in
theorem stL_of (hts : ∀ w ∈ lw_tbl, w.before args s = true) (hs : ∀ c ∈ flG, c.before args s = true) : stL s.heap.size s := by
  obtain ⟨adK, adV, hS, hE⟩ := vk_Sof (N := 1) (tm := fun _ => .string "PointsHome$Tape" 87) (len := [97]) (byt := [bytW]) (A := fun q => s.heap.size ≤ q) (args := args) (s := s)
    (fun i hi => by obtain rfl : i = 0 := by omega
                    decide)
    (fun i hi => hs _ (List.mem_of_getElem? (i := 68) rfl))
    (fun i hi => hs _ (List.mem_of_getElem? (i := 69) rfl))
    (fun i hi => hs _ (List.mem_of_getElem? (i := 70) rfl))
    (fun i hi => by
      obtain rfl : i = 0 := by omega
      exact hs _ (List.mem_of_getElem? (i := 71) rfl))
    (fun i hi j hj => by
      obtain rfl : i = 0 := by omega
      exact hs _ (fl_in fl_wrd hj))
    (fun i j hi hj hij => absurd (by omega) hij) st_A
  refine ⟨adK 0, adV 0, vk_R.of (A := args) (hts _ (List.mem_of_getElem? (i := 1082) (by decide +kernel))) (hE 0 (by decide)), ⟨fun i hi => ?_, fun i j hi hj _ => by omega⟩, ?_, ?_⟩
  · obtain rfl : i = 0 := by omega
    exact hS.1 0 (by decide)
  · exact va_Zof (hts _ (List.mem_of_getElem? (i := 1092) (by decide +kernel))) (hts _ (List.mem_of_getElem? (i := 150) (by decide +kernel))) (va_eqt (hs _ (List.mem_of_getElem? (i := 15) rfl))) st_A
  · exact va_Zqof (hts _ (List.mem_of_getElem? (i := 1108) (by decide +kernel))) (hts _ (List.mem_of_getElem? (i := 152) (by decide +kernel))) (hs _ (List.mem_of_getElem? (i := 16) rfl)) st_A
set_option maxRecDepth 100000 in
theorem sx_of (hts : ∀ w ∈ lw_tbl, w.before args s = true) (hgv : (Jvm.Cond.and given_1 narrow_1).before args s = true) : SX s.heap.size s := by
  have hs : ∀ c ∈ flG, c.before args s = true := flat_of_before _ hgv
  refine ⟨?_, ?_, ?_, stL_of hts hs⟩
  · exact stX_of (by decide) (hts _ (List.mem_of_getElem? (i := 847) (by decide +kernel))) (hts _ (List.mem_of_getElem? (i := 137) (by decide +kernel))) (hs _ (List.mem_of_getElem? (i := 5) rfl)) (hs _ (List.mem_of_getElem? (i := 6) rfl)) (fun j hj => hs _ (fl_in fl_abo hj))
  · exact stX_of (by decide) (hts _ (List.mem_of_getElem? (i := 1642) (by decide +kernel))) (hts _ (List.mem_of_getElem? (i := 137) (by decide +kernel))) (hs _ (List.mem_of_getElem? (i := 21) rfl)) (hs _ (List.mem_of_getElem? (i := 22) rfl)) (fun j hj => hs _ (fl_in fl_own hj))
  · exact stJ_of (by decide) (hts _ (List.mem_of_getElem? (i := 2309) (by decide +kernel))) (hts _ (List.mem_of_getElem? (i := 148) (by decide +kernel))) (hs _ (List.mem_of_getElem? (i := 56) rfl)) (hs _ (List.mem_of_getElem? (i := 57) rfl)) (fun j hj => hs _ (fl_in fl_nam hj))
end START
