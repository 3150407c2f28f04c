/-! ===== locals, branches, memory ===== -/
theorem alk_mem {ls : List (Nat × aV)} {i : Nat} {a : aV} (h : alk ls i = some a) : (i, a) ∈ ls := by
  unfold alk at h
  split at h
  · next q hq =>
    cases h
    have h1 := List.find?_some hq
    have h1 : q.1 = i := Nat.eq_of_beq_eq_true h1
    have := List.mem_of_find?_eq_some hq
    rw [← h1]
    exact this
  · cases h
theorem psh_il {ls : mL} {i : Nat} {x : Int32} (h : lkp ls i = some (.int x)) : psh (.iload i) ls = some (.int x) := by simp only [psh, h]
theorem apsh_ok {ins : Instr} {v : Int} {n : Nat} {rho : Nat → Int} {ls : List (Nat × aV)} {l : mL} {u : aV} (hl : lOK n rho ls l) (h : apsh ins v ls = some u) : ∃ r, (psh ins l = some r ∨ ldk ins v = some r) ∧ vOK n rho u r := by
  unfold apsh at h
  have cst : ∀ (i : Int32) (k : Int), i.toInt = k → vOK n rho (.inl (nK k)) (.int i) := fun i k e => ⟨nb_K, i, rfl, by rw [fvl_K, e]⟩
  split at h
  · next k =>
    obtain ⟨c, h⟩ := bif_o h
    cases h
    have g := in32_iff.mp c
    unfold lo32 hi32 at g
    exact ⟨_, Or.inl rfl, cst _ _ (Int32.toInt_ofInt_of_le (by omega) (by omega))⟩
  · next k =>
    obtain ⟨c, h⟩ := bif_o h
    cases h
    simp only [Bool.and_eq_true, ile_iff] at c
    refine ⟨_, Or.inl rfl, cst _ _ ?_⟩
    rw [Int8.toInt_toInt32]
    exact Int8.toInt_ofInt_of_le (by omega) (by omega)
  · next k =>
    obtain ⟨c, h⟩ := bif_o h
    cases h
    simp only [Bool.and_eq_true, ile_iff] at c
    refine ⟨_, Or.inl rfl, cst _ _ ?_⟩
    rw [Int16.toInt_toInt32]
    exact Int16.toInt_ofInt_of_le (by omega) (by omega)
  · cases h; exact ⟨_, Or.inl rfl, ⟨_, rfl⟩⟩
  · obtain ⟨c, h⟩ := bif_o h
    cases h
    have g := in32_iff.mp c
    unfold lo32 hi32 at g
    exact ⟨_, Or.inr rfl, cst _ _ (Int32.toInt_ofInt_of_le (by omega) (by omega))⟩
  · obtain ⟨c, h⟩ := bif_o h
    cases h
    have g := in32_iff.mp c
    unfold lo32 hi32 at g
    exact ⟨_, Or.inr rfl, cst _ _ (Int32.toInt_ofInt_of_le (by omega) (by omega))⟩
  · cases h; exact ⟨_, Or.inr rfl, ⟨_, rfl⟩⟩
  all_goals first
    | (cases h; done)
    | (split at h
       · next he =>
         cases h
         obtain ⟨r, h1, h2⟩ := hl _ _ (alk_mem he)
         refine ⟨r, Or.inl ?_, h2⟩
         first
           | (obtain ⟨-, i, rfl, -⟩ := h2; simp only [psh, h1]; done)
           | (obtain ⟨i, rfl⟩ := h2; simp only [psh, h1]; done)
           | (obtain rfl : r = _ := h2; simp only [psh, h1]; done)
       · cases h)
theorem lkp_cons_ne {l : mL} {i k : Nat} {v : Value} (h : ¬ i = k) : lkp ((i, v) :: l) k = lkp l k := by
  unfold lkp
  rw [List.find?_cons]
  have : ((i, v).1 == k) = false := by simpa using h
  rw [this]
theorem lkp_cons_eq {l : mL} {i : Nat} {v : Value} : lkp ((i, v) :: l) i = some v := by
  unfold lkp
  rw [List.find?_cons]
  have : ((i, v).1 == i) = true := by simp
  rw [this]
  rfl
theorem lkp_filter {f : Nat × Value → Bool} {k : Nat} {u : Value} : ∀ {l : mL}, lkp l k = some u → f (k, u) = true → lkp (l.filter f) k = some u
  | [], h, _ => by cases h
  | (i, v) :: l, h, hf => by
    by_cases e : i = k
    · subst e
      rw [lkp_cons_eq] at h
      cases h
      rw [List.filter_cons_of_pos hf, lkp_cons_eq]
    · rw [lkp_cons_ne e] at h
      have ih := lkp_filter h hf
      by_cases g : f (i, v) = true
      · rw [List.filter_cons_of_pos g, lkp_cons_ne e]
        exact ih
      · rw [List.filter_cons_of_neg g]
        exact ih
theorem lOK_st1 {n : Nat} {rho : Nat → Int} {ls : List (Nat × aV)} {l : mL} {i : Nat} {a : aV} {v : Value} (hl : lOK n rho ls l) (hv : vOK n rho a v) : lOK n rho (ast1 ls i a) (sto1 l i v) := by
  intro k b hb
  unfold ast1 at hb
  unfold sto1
  rcases List.mem_cons.mp hb with e | hb
  · cases e
    exact ⟨v, lkp_cons_eq, hv⟩
  · obtain ⟨hm, hf⟩ := List.mem_filter.mp hb
    obtain ⟨u, h1, h2⟩ := hl k b hm
    simp only [Bool.and_eq_true, Bool.not_eq_true'] at hf
    have hki : ¬ k = i := fun e => by rw [e, Nat.beq_refl] at hf; exact absurd hf.1 (by decide)
    rw [lkp_cons_ne (fun e => hki e.symm)]
    refine ⟨u, lkp_filter h1 ?_, h2⟩
    have c1 : (k == i) = false := by simpa using hki
    dsimp only
    rw [c1]
    cases c2 : (k + 1 == i) with
    | false => rfl
    | true =>
      have e1 : k + 1 = i := by simpa using c2
      have e2 := hf.2
      rw [e1, Nat.beq_refl, Bool.true_and] at e2
      rw [h2.cat]
      unfold acat
      rw [e2]
      rfl
theorem lOK_st2 {n : Nat} {rho : Nat → Int} {ls : List (Nat × aV)} {l : mL} {i : Nat} {a : aV} {v : Value} (hl : lOK n rho ls l) (hv : vOK n rho a v) : lOK n rho (ast2 ls i a) (sto2 l i v) := by
  intro k b hb
  unfold ast2 at hb
  unfold sto2
  rcases List.mem_cons.mp hb with e | hb
  · cases e
    exact ⟨v, lkp_cons_eq, hv⟩
  · obtain ⟨hm, hf⟩ := List.mem_filter.mp hb
    obtain ⟨u, h1, h2⟩ := hl k b hm
    simp only [Bool.and_eq_true, Bool.not_eq_true'] at hf
    have hki : ¬ k = i := fun e => by rw [e, Nat.beq_refl] at hf; exact absurd hf.1 (by decide)
    have hki2 : ¬ k = i + 1 := fun e => by rw [e, Nat.beq_refl] at hf; exact absurd hf.2.1 (by decide)
    rw [lkp_cons_ne (fun e => hki e.symm)]
    refine ⟨u, lkp_filter h1 ?_, h2⟩
    have c1 : (k == i) = false := by simpa using hki
    have c3 : (k == i + 1) = false := by simpa using hki2
    dsimp only
    rw [c1, c3]
    cases c2 : (k + 1 == i) with
    | false => rfl
    | true =>
      have e1 : k + 1 = i := by simpa using c2
      have e2 := hf.2.2
      rw [e1, Nat.beq_refl, Bool.true_and] at e2
      rw [h2.cat]
      unfold acat
      rw [e2]
      rfl
theorem astl_ok {nL : Nat} {ins : Instr} {n : Nat} {rho : Nat → Int} {ls ls' : List (Nat × aV)} {l : mL} {a : aV} {v : Value} (hl : lOK n rho ls l) (hv : vOK n rho a v) (h : astl nL ins ls a = some ls') : ∃ l', stl nL ins l v = some l' ∧ lOK n rho ls' l' := by
  have hv0 := hv
  unfold astl at h
  split at h
  all_goals first
    | (cases h; done)
    | (obtain ⟨c, h⟩ := bif_o h
       cases h
       have g := Nat.le_of_ble_eq_true c
       first
         | (obtain ⟨-, i, rfl, -⟩ := hv; exact ⟨_, by unfold stl; exact if_pos (by omega), lOK_st1 hl hv0⟩)
         | (obtain ⟨i, rfl⟩ := hv; exact ⟨_, by unfold stl; exact if_pos (by omega), lOK_st2 hl hv0⟩)
         | (obtain rfl : v = _ := hv; exact ⟨_, by unfold stl; exact if_pos (by omega), lOK_st1 hl hv0⟩))
/-! branches -/
theorem swc_ok {pc : Nat} {B : aB} {F : List aI} {rho : Nat → Int} {x : aI} {r : List aV} {i : Int32} (hB : bOK B rho) (hF : cOK B.1 rho F) (hx : nb B.1 x) (hi : i.toInt = fvl rho x) : ∀ {os : List Int} {k : Int} {L : List aO}, swc pc B F x r k os = some L → k ≤ i.toInt → i.toInt < k + os.length → ∃ o t, os[(i.toInt - k).toNat]? = some o ∧ tgt pc o = some t ∧ ∃ b : aBF, (t, r, b.1, b.2) ∈ L ∧ bOK b.1 rho ∧ b.1.1 = B.1 ∧ cOK B.1 rho b.2
  | [], k, L, h, h1, h2 => by simp at h2; omega
  | o :: os, k, L, h, h1, h2 => by
    unfold swc at h
    split at h
    · next t ht =>
      split at h
      · next L' hL =>
        cases h
        by_cases e : i.toInt = k
        · refine ⟨o, t, by rw [show (i.toInt - k).toNat = 0 by omega]; rfl, ht, ?_⟩
          obtain ⟨b, hm, q⟩ := rfL_ok (lo := k) (up := k) hB hx hi hF (by omega) (by omega)
          exact ⟨b, List.mem_append_left _ (List.mem_map.mpr ⟨b, hm, rfl⟩), q⟩
        · obtain ⟨o', t', a1, a2, B', a3, a4⟩ := swc_ok hB hF hx hi hL (by omega) (by simp at h2; omega)
          refine ⟨o', t', ?_, a2, B', List.mem_append_right _ a3, a4⟩
          rw [show (i.toInt - k).toNat = (i.toInt - (k + 1)).toNat + 1 by omega, List.getElem?_cons_succ]
          exact a1
      · cases h
    · cases h
theorem lsw_ok {pc : Nat} {B : aB} {F : List aI} {rho : Nat → Int} {x : aI} {r : List aV} {i : Int32} (hB : bOK B rho) (hF : cOK B.1 rho F) (hx : nb B.1 x) (hi : i.toInt = fvl rho x) (d : Int) : ∀ {os : List (Int × Int)} {L : List aO}, lsw pc B F x r os = some L → Op.lookupswitch.offset os d i.toInt = d ∨ ∃ t, tgt pc (Op.lookupswitch.offset os d i.toInt) = some t ∧ ∃ b : aBF, (t, r, b.1, b.2) ∈ L ∧ bOK b.1 rho ∧ b.1.1 = B.1 ∧ cOK B.1 rho b.2
  | [], L, h => Or.inl rfl
  | (k, o) :: os, L, h => by
    unfold lsw at h
    split at h
    · next t ht =>
      split at h
      · next L' hL =>
        cases h
        by_cases e : k = i.toInt
        · right
          have e2 : Op.lookupswitch.offset ((k, o) :: os) d i.toInt = o := by rw [Op.lookupswitch.offset_cons, if_pos e]
          rw [e2]
          obtain ⟨b, hm, q⟩ := rfL_ok (lo := k) (up := k) hB hx hi hF (by omega) (by omega)
          exact ⟨t, ht, b, List.mem_append_left _ (List.mem_map.mpr ⟨b, hm, rfl⟩), q⟩
        · have e2 : Op.lookupswitch.offset ((k, o) :: os) d i.toInt = Op.lookupswitch.offset os d i.toInt := by rw [Op.lookupswitch.offset_cons, if_neg e]
          rw [e2]
          rcases lsw_ok hB hF hx hi d hL with q | ⟨t', a1, B', a2, a3⟩
          · exact Or.inl q
          · exact Or.inr ⟨t', a1, B', List.mem_append_right _ a2, a3⟩
      · cases h
    · cases h
theorem abr_ok {spl : Bool} {pc a : Nat} {ins : Instr} {B : aB} {F : List aI} {rho : Nat → Int} {st : List aV} {s : List Value} {L : List aO} (hB : bOK B rho) (hF : cOK B.1 rho F) (hs : sOK B.1 rho st s) (h : abr spl pc a ins B F st = some L) : ∃ pc' s', brn pc a ins s = some (pc', s') ∧ ∃ e ∈ L, e.1 = pc' ∧ sOK B.1 rho e.2.1 s' ∧ bOK e.2.2.1 rho ∧ e.2.2.1.1 = B.1 ∧ cOK B.1 rho e.2.2.2 := by
  have z0 : (0 : Int32).toInt = fvl rho (nK 0) := by rw [fvl_K]; rfl
  unfold abr at h
  split at h
  · cases h
    exact ⟨_, _, rfl, _, List.mem_singleton_self _, rfl, hs, hB, rfl, hF⟩
  · next c o =>
    split at h
    · next x r =>
      match s, hs with
      | v :: s, hs =>
        obtain ⟨hx, i, rfl, hi⟩ := hs.1
        cases h
        refine ⟨_, _, rfl, ?_⟩
        cases hb : bcmp c i 0 with
        | true =>
          obtain ⟨B', hm, q1, q2⟩ := acm_ok (spl := spl) hB hF hx nb_K hi z0 (icm_iff.mp hb)
          exact ⟨_, List.mem_append_left _ (List.mem_map.mpr ⟨B', hm, rfl⟩), rfl, hs.2, q1, q2⟩
        | false =>
          have hn : ¬ icm c i.toInt (0 : Int32).toInt := fun q => by rw [icm_iff.mpr q] at hb; cases hb
          obtain ⟨B', hm, q1, q2⟩ := acm_ok (spl := spl) hB hF hx nb_K hi z0 (ngc_icm hn)
          exact ⟨_, List.mem_append_right _ (List.mem_map.mpr ⟨B', hm, rfl⟩), rfl, hs.2, q1, q2⟩
    · cases h
  · next c o =>
    split at h
    · next y x r =>
      match s, hs with
      | u :: v :: s, hs =>
        obtain ⟨hy, k, rfl, hk⟩ := hs.1
        obtain ⟨hx, i, rfl, hi⟩ := hs.2.1
        cases h
        refine ⟨_, _, rfl, ?_⟩
        cases hb : bcmp c i k with
        | true =>
          obtain ⟨B', hm, q1, q2⟩ := acm_ok (spl := spl) hB hF hx hy hi hk (icm_iff.mp hb)
          exact ⟨_, List.mem_append_left _ (List.mem_map.mpr ⟨B', hm, rfl⟩), rfl, hs.2.2, q1, q2⟩
        | false =>
          have hn : ¬ icm c i.toInt k.toInt := fun q => by rw [icm_iff.mpr q] at hb; cases hb
          obtain ⟨B', hm, q1, q2⟩ := acm_ok (spl := spl) hB hF hx hy hi hk (ngc_icm hn)
          exact ⟨_, List.mem_append_right _ (List.mem_map.mpr ⟨B', hm, rfl⟩), rfl, hs.2.2, q1, q2⟩
    · cases h
  · next d lo hi offs =>
    split at h
    · next x r =>
      match s, hs with
      | v :: s, hs =>
        obtain ⟨hx, i, rfl, hi'⟩ := hs.1
        have hv := ivl_ok hB hx hi'
        split at h
        · next t ht =>
          split at h
          · next L' hL =>
            obtain ⟨c, h⟩ := bif_o h
            have c := ieq_iff.mp c
            cases h
            by_cases hout : i.toInt < lo ∨ hi < i.toInt
            · refine ⟨t, s, by simp only [brn, if_pos hout, ht]; rfl, ?_⟩
              cases c2 : (ile lo (ivl B x).1 && ile (ivl B x).2 hi) with
              | true =>
                simp only [Bool.and_eq_true, ile_iff] at c2
                omega
              | false => exact ⟨_, List.mem_cons_self, rfl, hs.2, hB, rfl, hF⟩
            · obtain ⟨o, t', a1, a2, B', a3, a4, a5⟩ := swc_ok hB hF hx hi' hL (by omega) (by omega)
              refine ⟨t', s, ?_, ?_⟩
              · simp only [brn, if_neg hout]
                rw [← Array.getElem?_toList, a1]
                simp only [Option.bind_some, a2, Option.map_some]
              · cases c2 : (ile lo (ivl B x).1 && ile (ivl B x).2 hi) with
                | true => exact ⟨_, a3, rfl, hs.2, a4, a5⟩
                | false => exact ⟨_, List.mem_cons_of_mem _ a3, rfl, hs.2, a4, a5⟩
          · cases h
        · cases h
    · cases h
  · next d ps =>
    split at h
    · next x r =>
      match s, hs with
      | v :: s, hs =>
        obtain ⟨hx, i, rfl, hi'⟩ := hs.1
        split at h
        · next t ht =>
          split at h
          · next L' hL =>
            cases h
            rcases lsw_ok hB hF hx hi' d hL with q | ⟨t', a1, B', a2, a3, a4⟩
            · refine ⟨t, s, ?_, _, List.mem_cons_self, rfl, hs.2, hB, rfl, hF⟩
              simp only [brn, q, ht]; rfl
            · refine ⟨t', s, ?_, _, List.mem_cons_of_mem _ a2, rfl, hs.2, a3, a4⟩
              simp only [brn, a1]; rfl
          · cases h
        · cases h
    · cases h
  · cases h
/-! memory -/
theorem rgL_ok {T : aT} {q : Nat} {x : aI} {rho : Nat → Int} {I : Nat → Nat → Int32} (hr : ∀ q k, (rg T q k).1 ≤ (I q k).toInt ∧ (I q k).toInt ≤ (rg T q k).2) : (rgL T q x).1 ≤ (I q (fvl rho x).toNat).toInt ∧ (I q (fvl rho x).toNat).toInt ≤ (rgL T q x).2 := by
  have h := hr q (fvl rho x).toNat
  unfold rg at h
  unfold rgL
  split
  · next r e => rw [e] at h; exact h
  · next l e =>
    rw [e] at h
    dsimp only at h
    split
    · next e2 =>
      have e0 : fvl rho x = x.1 := by unfold fvl; rw [e2]; simp only [fev]; omega
      rw [e0] at h ⊢
      exact h
    · exact i32b _
theorem rgS_ok {T : aT} {B : aB} {F : List aI} {q : Nat} {x z : aI} {rho : Nat → Int} (hB : bOK B rho) (hF : cOK B.1 rho F) (hx : nb B.1 x) (h0 : 0 ≤ fvl rho x) (hz : nb B.1 z) (hs : rgS T B F q x z = true) (h3 : lo32 ≤ fvl rho z) (h4 : fvl rho z ≤ hi32) : (rg T q (fvl rho x).toNat).1 ≤ fvl rho z ∧ fvl rho z ≤ (rg T q (fvl rho x).toNat).2 := by
  unfold rgS at hs
  unfold rg
  split at hs
  · exact btw_ok hB hF hz hs
  · next L e =>
    split at hs
    · next e2 =>
      have e0 : fvl rho x = x.1 := by unfold fvl; rw [e2]; simp only [fev]; omega
      rw [e0]
      exact btw_ok hB hF hz hs
    · have hv := ivf_ok hB hx
      by_cases hk : (fvl rho x).toNat < L.length
      · have := List.all_eq_true.mp hs (fvl rho x).toNat (List.mem_range.mpr hk)
        simp only [Bool.or_eq_true, ile_iff] at this
        rcases this with q | q | q
        · omega
        · omega
        · exact btw_ok hB hF hz q
      · rw [List.getD_eq_getElem?_getD, List.getElem?_eq_none (by omega)]
        exact ⟨h3, h4⟩
theorem rgI_ok {T : aT} {q : Nat} {l h : Int} (hs : rgI T q l h = true) (k : Nat) {i : Int} (h1 : l ≤ i) (h2 : i ≤ h) : (rg T q k).1 ≤ i ∧ i ≤ (rg T q k).2 := by
  unfold rgI at hs
  unfold rg
  split at hs
  · rw [Bool.and_eq_true, ile_iff, ile_iff] at hs
    omega
  · cases hs
theorem plk_mem {P : aP} {q : Nat} {x z : aI} (h : plk P q x = some z) : ((q, x), z) ∈ P := by
  unfold plk at h
  split at h
  · next e he =>
    cases h
    have h1 := List.find?_some he
    simp only [Bool.and_eq_true] at h1
    have e1 : e.1.1 = q := Nat.eq_of_beq_eq_true h1.1
    have e2 := neq_ok h1.2
    have := List.mem_of_find?_eq_some he
    obtain ⟨⟨a, b⟩, d⟩ := e
    dsimp only at e1 e2
    subst e1 e2
    exact this
  · cases h
/-- an int of memory is read -/
theorem aget_ok {T : aT} {B B' : aB} {P P' : aP} {q : Nat} {x z : aI} {rho : Nat → Int} {I : Nat → Nat → Int32} (hB : bOK B rho) (hP : pOK B.1 rho P I) (hx : nb B.1 x) (h0 : 0 ≤ fvl rho x) (hr : ∀ q k, (rg T q k).1 ≤ (I q k).toInt ∧ (I q k).toInt ≤ (rg T q k).2) (h : aget T B P q x = (z, B', P')) : ∃ rho', agr B.1 rho rho' ∧ bOK B' rho' ∧ B.1 ≤ B'.1 ∧ pOK B'.1 rho' P' I ∧ nb B'.1 z ∧ (I q (fvl rho x).toNat).toInt = fvl rho' z := by
  unfold aget at h
  split at h
  · next z' e =>
    cases h
    obtain ⟨a1, a2, a3, a4⟩ := hP _ (plk_mem e)
    exact ⟨rho, agr.refl _ _, hB, Nat.le_refl _, hP, a2, a4⟩
  · have hl := rgL_ok (T := T) (q := q) (x := x) (rho := rho) hr
    have := mkv_ok (B := B) (rho := rho) hB hl.1 hl.2
    split at h
    next z' B2 e =>
    rw [e] at this
    cases h
    obtain ⟨rho', h1, h2, h3, h4, h5⟩ := this
    refine ⟨rho', h1, h2, h3, fun e he => ?_, h4, h5⟩
    rcases List.mem_cons.mp he with rfl | he
    · dsimp only
      rw [fvl_agr h1 hx]
      exact ⟨hx.mono h3, h4, h0, h5⟩
    · exact hP.mono h3 h1 e he
theorem pkp_ok {n : Nat} {rho : Nat → Int} {P : aP} {I : Nat → Nat → Int32} {q : Nat} {x : aI} {v : Int32} (hP : pOK n rho P I) (h0 : 0 ≤ fvl rho x) : pOK n rho (pkp q x P) (up2 I q (fvl rho x).toNat v) := by
  intro e he
  obtain ⟨hm, hf⟩ := List.mem_filter.mp he
  obtain ⟨a1, a2, a3, a4⟩ := hP e hm
  refine ⟨a1, a2, a3, ?_⟩
  have : up2 I q (fvl rho x).toNat v e.1.1 (fvl rho e.1.2).toNat = I e.1.1 (fvl rho e.1.2).toNat := by
    unfold up2
    split
    · next e1 =>
      split
      · next e2 =>
        exfalso
        simp only [Bool.or_eq_true, Bool.not_eq_true'] at hf
        rcases hf with g | g
        · rw [e1, Nat.beq_refl] at g; cases g
        · unfold cne at g
          split at g
          · next e3 =>
            have e4 : fvl rho (nsb x e.1.2) = (nsb x e.1.2).1 := by unfold fvl; rw [e3]; simp only [fev]; omega
            have e5 : ¬ (nsb x e.1.2).1 = 0 := fun k => by rw [ieq_iff.mpr k] at g; cases g
            rw [fvl_sb] at e4
            omega
          · cases g
      · rfl
    · rfl
  rw [this]
  exact a4
theorem pst_add {n : Nat} {rho : Nat → Int} {P : aP} {I : Nat → Nat → Int32} {q : Nat} {x z : aI} {v : Int32} (hP : pOK n rho P I) (h0 : 0 ≤ fvl rho x) (hx : nb n x) (hz : nb n z) (hv : v.toInt = fvl rho z) : pOK n rho (((q, x), z) :: pkp q x P) (up2 I q (fvl rho x).toNat v) := by
  intro e he
  rcases List.mem_cons.mp he with rfl | he
  · refine ⟨hx, hz, h0, ?_⟩
    show (up2 I q (fvl rho x).toNat v q (fvl rho x).toNat).toInt = _
    unfold up2
    rw [if_pos rfl, if_pos rfl]
    exact hv
  · exact pkp_ok hP h0 e he
/-- what is kept beyond ranges: stores elsewhere don't touch it -/
def EOK (FE : Nat → Bool ⊕ List Nat) (E : mW → Prop) : Prop := (∀ sh I L R q k x, feP (FE q) k = false → E (sh, I, L, R) → E (sh, up2 I q k x, L, R)) ∧ ∀ sh I L L' R, E (sh, I, L, R) → E (sh, I, L', R)
theorem feF_ok {f : Bool ⊕ List Nat} {x : aI} {rho : Nat → Int} (h : feF f x = true) : feP f (fvl rho x).toNat = false := by
  unfold feF at h
  unfold feP
  split at h
  · rw [Bool.not_eq_true'] at h; exact h
  · split at h
    · next hx =>
      rw [Bool.not_eq_true'] at h
      have e : fvl rho x = x.1 := by unfold fvl; rw [hx]; show x.1 + 0 = x.1; omega
      rw [e]
      exact h
    · cases h
theorem wOK_put {T : aT} {E : mW → Prop} (hE : EOK T.2.2.2.1 E) {sh : List mE} {I : Nat → Nat → Int32} {L : Nat → Nat → Int64} {R : Nat → Nat → Option Nat} {q k : Nat} {v : Int32} (hw : wOK T E (sh, I, L, R)) (hf : feP (T.2.2.2.1 q) k = false) (hv : (rg T q k).1 ≤ v.toInt ∧ v.toInt ≤ (rg T q k).2) : wOK T E (sh, up2 I q k v, L, R) := by
  obtain ⟨h1, h2, h3, h4⟩ := hw
  refine ⟨h1, h2, fun q' k' => ?_, hE.1 _ _ _ _ _ _ _ hf h4⟩
  show (rg T q' k').1 ≤ (up2 I q k v q' k').toInt ∧ (up2 I q k v q' k').toInt ≤ (rg T q' k').2
  unfold up2
  split
  · next e1 =>
    split
    · next e2 => rw [e1, e2]; exact hv
    · exact h3 q' k'
  · exact h3 q' k'
theorem sameI_put {md : aM} {I0 I : Nat → Nat → Int32} {q k : Nat} {v : Int32} (h : sameI md I0 I) (hm : inm md q k = true) : sameI md I0 (up2 I q k v) := by
  intro q' k' hq
  unfold up2
  split
  · next e1 =>
    split
    · next e2 => rw [e1, e2, hm] at hq; cases hq
    · exact h q' k' hq
  · exact h q' k' hq
theorem inm_of_hasA {md : aM} {q : Nat} (h : hasA md q = true) (k : Nat) : inm md q k = true := by
  unfold hasA at h
  unfold inm
  obtain ⟨e, he, h2⟩ := List.any_eq_true.mp h
  refine List.any_eq_true.mpr ⟨e, he, ?_⟩
  rw [Bool.and_eq_true] at h2 ⊢
  refine ⟨h2.1, ?_⟩
  obtain ⟨a, b⟩ := e
  cases b with
  | none => rfl
  | some b => exact absurd h2.2 (by simp)
theorem inx_ok {B : aB} {F : List aI} {rho : Nat → Int} {x : aI} {n : Nat} {i : Int32} (hB : bOK B rho) (hF : cOK B.1 rho F) (hx : nb B.1 x) (hi : i.toInt = fvl rho x) (h : inx B F x n = true) : inR i n = true ∧ 0 ≤ fvl rho x ∧ i.toNatClampNeg = (fvl rho x).toNat := by
  unfold inx at h
  rw [Bool.and_eq_true] at h
  have h1 := prv_ok hB hF hx h.1
  have h2 := prv_ok hB hF (nb_sb nb_K hx) h.2
  rw [fvl_sb, fvl_K] at h2
  refine ⟨inR_of (by omega) (by omega), h1, ?_⟩
  have hc : i.toNatClampNeg = i.toInt.toNat := rfl
  rw [hc, hi]
