/-! ===== our rule: a new row is laid (wip/genrule.py) ===== -/
theorem stf_I {sh : List mE} {I : Nat → Nat → Int32} {L : Nat → Nat → Int64} {R : Nat → Nat → Option Nat} {ini a b q : Nat} {x : Int32} {r : List Value} (h0 : sh[q]? = some (.inr a)) (hb : b < (flds a).length) (ht : ((flds a)[b]?.map (fun f => f.2.2.2)) = some .int) (hn : ((flds a)[b]?.map (fun f => f.2.2.1)) = some false) : stf (sh, I, L, R) ini a b (.int x :: .ref q :: r) = some (r, (sh, up2 I q b x, L, R)) := by
  obtain ⟨f, hf⟩ : ∃ f, (flds a)[b]? = some f := ⟨_, List.getElem?_eq_getElem hb⟩
  rw [hf] at ht hn
  have h1 : f.2.2.2 = .int := Option.some.inj ht
  have h2 : f.2.2.1 = false := Option.some.inj hn
  unfold stf
  simp [h0, hf, h1, h2]
theorem wOK_u2 {T : aT} {E : mW → Prop} {sh : List mE} {I : Nat → Nat → Int32} {L : Nat → Nat → Int64} {R : Nat → Nat → Option Nat} {q k : Nat} {x : Int32} (hE : EOK T.2.2.2.1 E) (hw : wOK T E (sh, I, L, R)) (hf : feP (T.2.2.2.1 q) k = false) (h1 : (rg T q k).1 ≤ x.toInt) (h2 : x.toInt ≤ (rg T q k).2) : wOK T E (sh, up2 I q k x, L, R) := by
  refine ⟨hw.1, hw.2.1, fun q' k' => ?_, hE.1 _ _ _ _ _ _ _ hf hw.2.2.2⟩
  by_cases c : q' = q ∧ k' = k
  · obtain ⟨rfl, rfl⟩ := c
    have e : up2 I q' k' x q' k' = x := by unfold up2; rw [if_pos rfl, if_pos rfl]
    dsimp only
    rw [e]
    exact ⟨h1, h2⟩
  · have e : up2 I q k x q' k' = I q' k' := up2_ne c
    dsimp only
    rw [e]
    exact hw.2.2.1 q' k'
theorem iEq_cong {QB : Nat} {I I' : Nat → Nat → Int32} (hB : I' QB = I QB) (h0 : I' 94 = I 94) (h1 : I' 125 = I 125) (h2 : I' 128 = I 128) (h3 : I' 129 = I 129) (h4 : I' 130 = I 130) (h5 : I' 131 = I 131) (h6 : I' 132 = I 132) (h : iEq QB I) : iEq QB I' := by
  unfold iEq e1 e2 e3 rowsOK curOK lineOK nv zv at h ⊢
  simp only [hB, h0, h1, h2, h3, h4, h5, h6]
  exact h
theorem vG_far {z : Nat} (h : 170 ≤ z) (k : Nat) : rg (mkT vV []) z k = (lo32, hi32) := by
  have hv : vG z = .inl (lo32, hi32) := by
    unfold vG
    by_cases c : z < 176
    · have : z = 170 ∨ z = 171 ∨ z = 172 ∨ z = 173 ∨ z = 174 ∨ z = 175 := by omega
      rcases this with rfl | rfl | rfl | rfl | rfl | rfl <;> rfl
    · have : 11 ≤ z / 16 := by omega
      rw [List.getElem?_eq_none (by simpa using this)]
      rfl
  show (match vG z with
    | .inl r => r
    | .inr l => l.getD k (lo32, hi32)) = _
  rw [hv]
theorem sh_len {sh : List mE} {R : Nat → Nat → Option Nat} {w : mW} (hw : wOK (mkT vV []) (wE sh R) w) : 170 ≤ sh.length := by
  have h : ∃ e, vS 169 = some e := ⟨_, rfl⟩
  obtain ⟨e, he⟩ := h
  have := hw.1 169 e he
  rw [hw.2.2.2.1] at this
  have := (List.getElem?_eq_some_iff.mp this).1
  omega
theorem wE_new {sh : List mE} {I I' : Nat → Nat → Int32} {L : Nat → Nat → Int64} {R : Nat → Nat → Option Nat} {m k0 : Nat} (hw : wOK (mkT vV []) (wE sh R) (sh, I, L, R)) (hm : m ≤ 240) (hI : ∀ a k, ¬ a = sh.length → I' a k = I a k) : wOK (mkT vV []) (wE (sh ++ [.inl (.int, m)]) (up2 R 50 k0 (some sh.length))) (sh ++ [.inl (.int, m)], I', L, up2 R 50 k0 (some sh.length)) := by
  have hl := sh_len hw
  have row : ∀ a, a < 170 → I' a = I a := fun a ha => funext (fun k => hI a k (by omega))
  refine ⟨fun q e he => ?_, fun q k z hz => ?_, fun q k => ?_, rfl, rfl, fun k hk => ?_, ?_⟩
  · have := hw.1 q e he
    have hq := (List.getElem?_eq_some_iff.mp this).1
    show (sh ++ [.inl (.int, m)])[q]? = some e
    rw [List.getElem?_append_left hq]
    exact this
  · have hne : ¬ (q = 50 ∧ k = k0) := by
      rintro ⟨rfl, rfl⟩
      have : vR 50 k = none := rfl
      have hz : vR 50 k = some z := hz
      rw [this] at hz
      cases hz
    have e : up2 R 50 k0 (some sh.length) q k = R q k := by
      unfold up2
      split
      · next a =>
        split
        · next b => exact absurd ⟨a, b⟩ hne
        · rfl
      · rfl
    show up2 R 50 k0 (some sh.length) q k = some z
    rw [e]
    exact hw.2.1 q k z hz
  · by_cases c : q = sh.length
    · rw [vG_far (by omega)]
      exact i32b _
    · have := hw.2.2.1 q k
      show _ ≤ (I' q k).toInt ∧ (I' q k).toInt ≤ _
      rw [hI q k c]
      exact this
  · have hr := hw.2.2.2.2.2.1 k hk
    unfold up2
    rw [if_pos rfl]
    by_cases c : k = k0
    · rw [if_pos c]
      exact Or.inr ⟨sh.length, m, rfl, by rw [List.getElem?_append_right (Nat.le_refl _), Nat.sub_self]; rfl, hm⟩
    · rw [if_neg c]
      rcases hr with h | ⟨z, n, h1, h2, h3⟩
      · exact Or.inl h
      · exact Or.inr ⟨z, n, h1, by rw [List.getElem?_append_left (List.getElem?_eq_some_iff.mp h2).1]; exact h2, h3⟩
  · exact iEq_cong (row _ (by decide)) (row _ (by decide)) (row _ (by decide)) (row _ (by decide)) (row _ (by decide)) (row _ (by decide)) (row _ (by decide)) (row _ (by decide)) hw.2.2.2.2.2.2
def mdR : aM := [(41, none), (43, none), (44, none), (45, none), (46, none), (47, some 3), (48, none), (49, none)]
/-- what is left behind a call that may lay a row; what it keeps -/
def Qn (w : mW) (r : Option Value) (w' : mW) : Prop := fresh w' ∧ (∃ i : Int32, r = some (.int i)) ∧ (∃ sh' R', wOK (mkT vV []) (wE sh' R') w') ∧ ∀ q k, q < 170 → inm mdR q k = false → w'.2.1 q k = w.2.1 q k
theorem mdR_ne {q k : Nat} (h : inm mdR q k = false) : ¬ q = 48 ∧ ¬ q = 49 ∧ ¬ (q = 47 ∧ k = 3) ∧ ¬ q = 41 := by
  refine ⟨fun e => ?_, fun e => ?_, fun e => ?_, fun e => ?_⟩
  · rw [e] at h
    cases h
  · rw [e] at h
    cases h
  · rw [e.1, e.2] at h
    cases h
  · rw [e] at h
    cases h
theorem inm_up {md : aM} (hm : md.all (fun e => mdR.any (fun f => Nat.beq f.1 e.1 && (match f.2, e.2 with
  | none, _ => true
  | some a, some b => Nat.beq a b
  | some _, none => false))) = true) {q k : Nat} (h : inm mdR q k = false) : inm md q k = false := by
  cases c : inm md q k with
  | false => rfl
  | true =>
    exfalso
    unfold inm at c
    obtain ⟨e, he, ce⟩ := List.any_eq_true.mp c
    obtain ⟨f, hf, cf⟩ := List.any_eq_true.mp (List.all_eq_true.mp hm e he)
    rw [Bool.and_eq_true] at ce cf
    have e1 := Nat.eq_of_beq_eq_true ce.1
    have e2 := Nat.eq_of_beq_eq_true cf.1
    have : inm mdR q k = true := by
      unfold inm
      refine List.any_eq_true.mpr ⟨f, hf, ?_⟩
      rw [Bool.and_eq_true]
      refine ⟨by rw [e2, e1]; exact Nat.beq_refl q, ?_⟩
      have c2 := cf.2
      have c3 := ce.2
      cases hf2 : f.2 with
      | none => rfl
      | some a =>
        rw [hf2] at c2
        cases he2 : e.2 with
        | none => rw [he2] at c2; cases c2
        | some b =>
          rw [he2] at c2 c3
          have x1 := Nat.eq_of_beq_eq_true c2
          have x2 := Nat.eq_of_beq_eq_true c3
          show Nat.beq a k = true
          rw [x1, x2]
          exact Nat.beq_refl k
    rw [h] at this
    cases this
theorem tc_within {d : Nat} {w : mW} {a b c : Int32} : Tc 15 d 0 0 [.int a, .int b, .int c] w (fun r w' => ((r = some (.int 0)) ∨ (r = some (.int 1) ∧ b.toInt ≤ a.toInt ∧ a.toInt ≤ c.toInt)) ∧ w' = w) := by
  refine Tc.of mr_15 rfl (show 3 ≤ mr_15.2.2.2.1 by decide) ?_
  refine XW.fam (S' := (1, [(0, .int a), (1, .int b), (2, .int c)], [.int a], w)) (M := mr_15) rfl (show mcode 15 0 = some (0, .iload_n 0, 1, 0, 0, 0, _) from rfl) (Or.inl ⟨.int a, rfl, rfl⟩) ?_
  refine XW.fam (S' := (2, [(0, .int a), (1, .int b), (2, .int c)], [.int b, .int a], w)) (M := mr_15) rfl (show mcode 15 1 = some (1, .iload_n 1, 1, 0, 0, 0, _) from rfl) (Or.inl ⟨.int b, rfl, rfl⟩) ?_
  by_cases c1 : bcmp .lt a b = true
  · skip
    refine XW.fam (S' := (14, [(0, .int a), (1, .int b), (2, .int c)], [], w)) (M := mr_15) rfl (show mcode 15 2 = some (2, .if_icmp .lt 12, 3, 14, 0, 0, _) from rfl) (Or.inr (Or.inl ⟨14, [], by simp [brn, c1], rfl⟩)) ?_
    refine XW.fam (S' := (15, [(0, .int a), (1, .int b), (2, .int c)], [.int 0], w)) (M := mr_15) rfl (show mcode 15 14 = some (14, .iconst 0, 1, 0, 0, 0, _) from rfl) (Or.inl ⟨.int 0, rfl, rfl⟩) ?_
    exact XW.ret (r := some (.int 0)) ⟨⟨.boolean, rfl, rfl⟩, by decide +kernel⟩ ⟨Or.inl rfl, rfl⟩
  refine XW.fam (S' := (5, [(0, .int a), (1, .int b), (2, .int c)], [], w)) (M := mr_15) rfl (show mcode 15 2 = some (2, .if_icmp .lt 12, 3, 14, 0, 0, _) from rfl) (Or.inr (Or.inl ⟨5, [], by simp [brn, c1], rfl⟩)) ?_
  refine XW.fam (S' := (6, [(0, .int a), (1, .int b), (2, .int c)], [.int a], w)) (M := mr_15) rfl (show mcode 15 5 = some (5, .iload_n 0, 1, 0, 0, 0, _) from rfl) (Or.inl ⟨.int a, rfl, rfl⟩) ?_
  refine XW.fam (S' := (7, [(0, .int a), (1, .int b), (2, .int c)], [.int c, .int a], w)) (M := mr_15) rfl (show mcode 15 6 = some (6, .iload_n 2, 1, 0, 0, 0, _) from rfl) (Or.inl ⟨.int c, rfl, rfl⟩) ?_
  by_cases c2 : bcmp .gt a c = true
  · skip
    refine XW.fam (S' := (14, [(0, .int a), (1, .int b), (2, .int c)], [], w)) (M := mr_15) rfl (show mcode 15 7 = some (7, .if_icmp .gt 7, 3, 14, 0, 0, _) from rfl) (Or.inr (Or.inl ⟨14, [], by simp [brn, c2], rfl⟩)) ?_
    refine XW.fam (S' := (15, [(0, .int a), (1, .int b), (2, .int c)], [.int 0], w)) (M := mr_15) rfl (show mcode 15 14 = some (14, .iconst 0, 1, 0, 0, 0, _) from rfl) (Or.inl ⟨.int 0, rfl, rfl⟩) ?_
    exact XW.ret (r := some (.int 0)) ⟨⟨.boolean, rfl, rfl⟩, by decide +kernel⟩ ⟨Or.inl rfl, rfl⟩
  refine XW.fam (S' := (10, [(0, .int a), (1, .int b), (2, .int c)], [], w)) (M := mr_15) rfl (show mcode 15 7 = some (7, .if_icmp .gt 7, 3, 14, 0, 0, _) from rfl) (Or.inr (Or.inl ⟨10, [], by simp [brn, c2], rfl⟩)) ?_
  refine XW.fam (S' := (11, [(0, .int a), (1, .int b), (2, .int c)], [.int 1], w)) (M := mr_15) rfl (show mcode 15 10 = some (10, .iconst 1, 1, 0, 0, 0, _) from rfl) (Or.inl ⟨.int 1, rfl, rfl⟩) ?_
  refine XW.fam (S' := (15, [(0, .int a), (1, .int b), (2, .int c)], [.int 1], w)) (M := mr_15) rfl (show mcode 15 11 = some (11, .goto 4, 3, 15, 0, 0, _) from rfl) (Or.inr (Or.inl ⟨15, [.int 1], rfl, rfl⟩)) ?_
  simp only [bcmp, decide_eq_true_eq, Int32.lt_iff_toInt_lt] at c1 c2
  exact XW.ret (r := some (.int 1)) ⟨⟨.boolean, rfl, rfl⟩, by decide +kernel⟩ ⟨Or.inr ⟨rfl, by omega, by omega⟩, rfl⟩
theorem tc_add {d : Nat} {sh : List mE} {I : Nat → Nat → Int32} {L : Nat → Nat → Int64} {R : Nat → Nat → Option Nat} {day : Int32} (hw : wOK (mkT vV []) (wE sh R) (sh, I, L, R)) (hf : fresh (sh, I, L, R)) (hd0 : 0 ≤ day.toInt) (hd1 : day.toInt ≤ 700) : Tc 112 (d + 2) 1 240 [.ref 47, .int day, .ref 41] (sh, I, L, R) (Qn (sh, I, L, R)) := by
  have c47 : sh[47]? = some (.inr 6) := hw.1 47 _ rfl
  have c1 : sh[1]? = some (.inr 1) := hw.1 1 _ rfl
  have c41 : sh[41]? = some (.inr 5) := hw.1 41 _ rfl
  have c48 : sh[48]? = some (.inl (.int, 20)) := hw.1 48 _ rfl
  have c49 : sh[49]? = some (.inl (.int, 20)) := hw.1 49 _ rfl
  have c50 : sh[50]? = some (.inl (.array .int, 20)) := hw.1 50 _ rfl
  have c46 : sh[46]? = some (.inl (.int, 240)) := hw.1 46 _ rfl
  have r4 : R 47 4 = some 48 := hw.2.1 47 4 _ rfl
  have r5 : R 47 5 = some 49 := hw.2.1 47 5 _ rfl
  have r6 : R 47 6 = some 50 := hw.2.1 47 6 _ rfl
  have r0 : R 47 0 = some 1 := hw.2.1 47 0 _ rfl
  have r9 : R 41 9 = some 46 := hw.2.1 41 9 _ rfl
  have hm : 0 ≤ (I 47 3).toInt ∧ (I 47 3).toInt ≤ 20 := hw.2.2.1 47 3
  have ht : 0 ≤ (I 1 0).toInt ∧ (I 1 0).toInt ≤ 700 := hw.2.2.1 1 0
  have hs : 0 ≤ (I 41 10).toInt ∧ (I 41 10).toInt ≤ 240 := hw.2.2.1 41 10
  have hl := sh_len hw
  refine Tc.of mr_112 rfl (show 3 ≤ mr_112.2.2.2.1 by decide) ?_
  refine XW.fam (S' := (1, [(0, .ref 47), (1, .int day), (2, .ref 41)], [.ref 47], (sh, I, L, R))) (M := mr_112) rfl (show mcode 112 0 = some (0, .aload_n 0, 1, 0, 0, 0, _) from rfl) (Or.inl ⟨.ref 47, rfl, rfl⟩) ?_
  refine XW.fam (S' := (4, [(0, .ref 47), (1, .int day), (2, .ref 41)], [.int (I 47 3)], (sh, I, L, R))) (M := mr_112) rfl (show mcode 112 1 = some (1, .getfield 41, 3, 6, 3, 0, _) from rfl) (Or.inr (Or.inr (Or.inr (Or.inr (Or.inr (Or.inr (Or.inr (Or.inl ⟨_, _, rfl, fl_ldI c47 (by decide) (by decide), rfl⟩)))))))) ?_
  refine XW.fam (S' := (6, [(0, .ref 47), (1, .int day), (2, .ref 41)], [.int 20, .int (I 47 3)], (sh, I, L, R))) (M := mr_112) rfl (show mcode 112 4 = some (4, .bipush 20, 2, 0, 0, 0, _) from rfl) (Or.inl ⟨.int 20, rfl, rfl⟩) ?_
  by_cases c : bcmp .lt (I 47 3) 20 = false
  · skip
    refine XW.fam (S' := (9, [(0, .ref 47), (1, .int day), (2, .ref 41)], [], (sh, I, L, R))) (M := mr_112) rfl (show mcode 112 6 = some (6, .if_icmp .lt 6, 3, 12, 0, 0, _) from rfl) (Or.inr (Or.inl ⟨9, [], by simp [brn, c], rfl⟩)) ?_
    refine XW.fam (S' := (11, [(0, .ref 47), (1, .int day), (2, .ref 41)], [.int (-3)], (sh, I, L, R))) (M := mr_112) rfl (show mcode 112 9 = some (9, .bipush (-3), 2, 0, 0, 0, _) from rfl) (Or.inl ⟨.int (-3), rfl, rfl⟩) ?_
    exact XW.ret (r := some (.int (-3))) ⟨⟨.int, rfl, rfl⟩, by decide +kernel⟩ ⟨hf, ⟨_, rfl⟩, ⟨sh, R, hw⟩, fun _ _ _ _ => rfl⟩
  replace c : bcmp .lt (I 47 3) 20 = true := by cases h : bcmp .lt (I 47 3) 20 with | true => rfl | false => exact absurd h c
  have hlt : (I 47 3).toInt < 20 := by
    simp only [bcmp, decide_eq_true_eq, Int32.lt_iff_toInt_lt] at c
    exact c
  have hin : inR (I 47 3) 20 = true := inR_of hm.1 (by omega)
  have hcl : (I 47 3).toNatClampNeg = (I 47 3).toInt.toNat := rfl
  have hw1 := wOK_u2 (q := 48) (k := (I 47 3).toNatClampNeg) (x := I 1 0) wE_put hw rfl ht.1 ht.2
  have hw2 := wOK_u2 (q := 49) (k := (I 47 3).toNatClampNeg) (x := day) wE_put hw1 rfl hd0 hd1
  refine XW.fam (S' := (12, [(0, .ref 47), (1, .int day), (2, .ref 41)], [], (sh, I, L, R))) (M := mr_112) rfl (show mcode 112 6 = some (6, .if_icmp .lt 6, 3, 12, 0, 0, _) from rfl) (Or.inr (Or.inl ⟨12, [], by simp [brn, c], rfl⟩)) ?_
  refine XW.fam (S' := (13, [(0, .ref 47), (1, .int day), (2, .ref 41)], [.ref 47], (sh, I, L, R))) (M := mr_112) rfl (show mcode 112 12 = some (12, .aload_n 0, 1, 0, 0, 0, _) from rfl) (Or.inl ⟨.ref 47, rfl, rfl⟩) ?_
  refine XW.fam (S' := (16, [(0, .ref 47), (1, .int day), (2, .ref 41)], [.ref 48], (sh, I, L, R))) (M := mr_112) rfl (show mcode 112 13 = some (13, .getfield 9, 3, 6, 4, 0, _) from rfl) (Or.inr (Or.inr (Or.inr (Or.inr (Or.inr (Or.inr (Or.inr (Or.inl ⟨_, _, rfl, fl_ld c47 r4 (by decide) (by decide), rfl⟩)))))))) ?_
  refine XW.fam (S' := (17, [(0, .ref 47), (1, .int day), (2, .ref 41)], [.ref 47, .ref 48], (sh, I, L, R))) (M := mr_112) rfl (show mcode 112 16 = some (16, .aload_n 0, 1, 0, 0, 0, _) from rfl) (Or.inl ⟨.ref 47, rfl, rfl⟩) ?_
  refine XW.fam (S' := (20, [(0, .ref 47), (1, .int day), (2, .ref 41)], [.int (I 47 3), .ref 48], (sh, I, L, R))) (M := mr_112) rfl (show mcode 112 17 = some (17, .getfield 41, 3, 6, 3, 0, _) from rfl) (Or.inr (Or.inr (Or.inr (Or.inr (Or.inr (Or.inr (Or.inr (Or.inl ⟨_, _, rfl, fl_ldI c47 (by decide) (by decide), rfl⟩)))))))) ?_
  refine XW.fam (S' := (21, [(0, .ref 47), (1, .int day), (2, .ref 41)], [.ref 47, .int (I 47 3), .ref 48], (sh, I, L, R))) (M := mr_112) rfl (show mcode 112 20 = some (20, .aload_n 0, 1, 0, 0, 0, _) from rfl) (Or.inl ⟨.ref 47, rfl, rfl⟩) ?_
  refine XW.fam (S' := (24, [(0, .ref 47), (1, .int day), (2, .ref 41)], [.ref 1, .int (I 47 3), .ref 48], (sh, I, L, R))) (M := mr_112) rfl (show mcode 112 21 = some (21, .getfield 29, 3, 6, 0, 0, _) from rfl) (Or.inr (Or.inr (Or.inr (Or.inr (Or.inr (Or.inr (Or.inr (Or.inl ⟨_, _, rfl, fl_ld c47 r0 (by decide) (by decide), rfl⟩)))))))) ?_
  refine XW.fam (S' := (27, [(0, .ref 47), (1, .int day), (2, .ref 41)], [.int (I 1 0), .int (I 47 3), .ref 48], (sh, I, L, R))) (M := mr_112) rfl (show mcode 112 24 = some (24, .getfield 45, 3, 1, 0, 0, _) from rfl) (Or.inr (Or.inr (Or.inr (Or.inr (Or.inr (Or.inr (Or.inr (Or.inl ⟨_, _, rfl, fl_ldI c1 (by decide) (by decide), rfl⟩)))))))) ?_
  refine XW.fam (S' := (28, [(0, .ref 47), (1, .int day), (2, .ref 41)], [], (sh, up2 I 48 (I 47 3).toNatClampNeg (I 1 0), L, R))) (M := mr_112) rfl (show mcode 112 27 = some (27, .iastore, 1, 0, 0, 0, _) from rfl) (Or.inr (Or.inr (Or.inr (Or.inl ⟨_, _, by simp [sta, c48, aok, hin], rfl⟩)))) ?_
  generalize eI1 : up2 I 48 (I 47 3).toNatClampNeg (I 1 0) = I1 at hw1 hw2
  have m1 : I1 47 3 = I 47 3 := by rw [← eI1]; exact up2_ne (fun e => by cases e.1)
  have s1 : I1 41 10 = I 41 10 := by rw [← eI1]; exact up2_ne (fun e => by cases e.1)
  refine XW.fam (S' := (29, [(0, .ref 47), (1, .int day), (2, .ref 41)], [.ref 47], (sh, I1, L, R))) (M := mr_112) rfl (show mcode 112 28 = some (28, .aload_n 0, 1, 0, 0, 0, _) from rfl) (Or.inl ⟨.ref 47, rfl, rfl⟩) ?_
  refine XW.fam (S' := (32, [(0, .ref 47), (1, .int day), (2, .ref 41)], [.ref 49], (sh, I1, L, R))) (M := mr_112) rfl (show mcode 112 29 = some (29, .getfield 15, 3, 6, 5, 0, _) from rfl) (Or.inr (Or.inr (Or.inr (Or.inr (Or.inr (Or.inr (Or.inr (Or.inl ⟨_, _, rfl, fl_ld c47 r5 (by decide) (by decide), rfl⟩)))))))) ?_
  refine XW.fam (S' := (33, [(0, .ref 47), (1, .int day), (2, .ref 41)], [.ref 47, .ref 49], (sh, I1, L, R))) (M := mr_112) rfl (show mcode 112 32 = some (32, .aload_n 0, 1, 0, 0, 0, _) from rfl) (Or.inl ⟨.ref 47, rfl, rfl⟩) ?_
  refine XW.fam (S' := (36, [(0, .ref 47), (1, .int day), (2, .ref 41)], [.int (I1 47 3), .ref 49], (sh, I1, L, R))) (M := mr_112) rfl (show mcode 112 33 = some (33, .getfield 41, 3, 6, 3, 0, _) from rfl) (Or.inr (Or.inr (Or.inr (Or.inr (Or.inr (Or.inr (Or.inr (Or.inl ⟨_, _, rfl, fl_ldI c47 (by decide) (by decide), rfl⟩)))))))) ?_
  rw [m1]
  refine XW.fam (S' := (37, [(0, .ref 47), (1, .int day), (2, .ref 41)], [.int day, .int (I 47 3), .ref 49], (sh, I1, L, R))) (M := mr_112) rfl (show mcode 112 36 = some (36, .iload_n 1, 1, 0, 0, 0, _) from rfl) (Or.inl ⟨.int day, rfl, rfl⟩) ?_
  refine XW.fam (S' := (38, [(0, .ref 47), (1, .int day), (2, .ref 41)], [], (sh, up2 I1 49 (I 47 3).toNatClampNeg day, L, R))) (M := mr_112) rfl (show mcode 112 37 = some (37, .iastore, 1, 0, 0, 0, _) from rfl) (Or.inr (Or.inr (Or.inr (Or.inl ⟨_, _, by simp [sta, c49, aok, hin], rfl⟩)))) ?_
  generalize eI2 : up2 I1 49 (I 47 3).toNatClampNeg day = I2 at hw2
  have m2 : I2 47 3 = I 47 3 := by rw [← eI2]; exact (up2_ne (fun e => by cases e.1)).trans m1
  have s2 : I2 41 10 = I 41 10 := by rw [← eI2]; exact (up2_ne (fun e => by cases e.1)).trans s1
  have hf2 : fresh (sh, I2, L, R) := by
    intro a ha k
    have := hf a ha k
    refine ⟨?_, this.2⟩
    show I2 a k = 0
    have ha : sh.length ≤ a := ha
    rw [← eI2, up2_ne (fun e => by have := e.1; omega), ← eI1, up2_ne (fun e => by have := e.1; omega)]
    exact this.1
  refine XW.fam (S' := (39, [(0, .ref 47), (1, .int day), (2, .ref 41)], [.ref 47], (sh, I2, L, R))) (M := mr_112) rfl (show mcode 112 38 = some (38, .aload_n 0, 1, 0, 0, 0, _) from rfl) (Or.inl ⟨.ref 47, rfl, rfl⟩) ?_
  refine XW.fam (S' := (42, [(0, .ref 47), (1, .int day), (2, .ref 41)], [.ref 50], (sh, I2, L, R))) (M := mr_112) rfl (show mcode 112 39 = some (39, .getfield 19, 3, 6, 6, 0, _) from rfl) (Or.inr (Or.inr (Or.inr (Or.inr (Or.inr (Or.inr (Or.inr (Or.inl ⟨_, _, rfl, fl_ld c47 r6 (by decide) (by decide), rfl⟩)))))))) ?_
  refine XW.fam (S' := (43, [(0, .ref 47), (1, .int day), (2, .ref 41)], [.ref 47, .ref 50], (sh, I2, L, R))) (M := mr_112) rfl (show mcode 112 42 = some (42, .aload_n 0, 1, 0, 0, 0, _) from rfl) (Or.inl ⟨.ref 47, rfl, rfl⟩) ?_
  refine XW.fam (S' := (46, [(0, .ref 47), (1, .int day), (2, .ref 41)], [.int (I2 47 3), .ref 50], (sh, I2, L, R))) (M := mr_112) rfl (show mcode 112 43 = some (43, .getfield 41, 3, 6, 3, 0, _) from rfl) (Or.inr (Or.inr (Or.inr (Or.inr (Or.inr (Or.inr (Or.inr (Or.inl ⟨_, _, rfl, fl_ldI c47 (by decide) (by decide), rfl⟩)))))))) ?_
  rw [m2]
  refine XW.fam (S' := (47, [(0, .ref 47), (1, .int day), (2, .ref 41)], [.ref 41, .int (I 47 3), .ref 50], (sh, I2, L, R))) (M := mr_112) rfl (show mcode 112 46 = some (46, .aload_n 2, 1, 0, 0, 0, _) from rfl) (Or.inl ⟨.ref 41, rfl, rfl⟩) ?_
  refine XW.fam (S' := (50, [(0, .ref 47), (1, .int day), (2, .ref 41)], [.ref 46, .int (I 47 3), .ref 50], (sh, I2, L, R))) (M := mr_112) rfl (show mcode 112 47 = some (47, .getfield 50, 3, 5, 9, 0, _) from rfl) (Or.inr (Or.inr (Or.inr (Or.inr (Or.inr (Or.inr (Or.inr (Or.inl ⟨_, _, rfl, fl_ld c41 r9 (by decide) (by decide), rfl⟩)))))))) ?_
  refine XW.fam (S' := (51, [(0, .ref 47), (1, .int day), (2, .ref 41)], [.int 0, .ref 46, .int (I 47 3), .ref 50], (sh, I2, L, R))) (M := mr_112) rfl (show mcode 112 50 = some (50, .iconst 0, 1, 0, 0, 0, _) from rfl) (Or.inl ⟨.int 0, rfl, rfl⟩) ?_
  refine XW.fam (S' := (52, [(0, .ref 47), (1, .int day), (2, .ref 41)], [.ref 41, .int 0, .ref 46, .int (I 47 3), .ref 50], (sh, I2, L, R))) (M := mr_112) rfl (show mcode 112 51 = some (51, .aload_n 2, 1, 0, 0, 0, _) from rfl) (Or.inl ⟨.ref 41, rfl, rfl⟩) ?_
  refine XW.fam (S' := (55, [(0, .ref 47), (1, .int day), (2, .ref 41)], [.int (I2 41 10), .int 0, .ref 46, .int (I 47 3), .ref 50], (sh, I2, L, R))) (M := mr_112) rfl (show mcode 112 52 = some (52, .getfield 54, 3, 5, 10, 0, _) from rfl) (Or.inr (Or.inr (Or.inr (Or.inr (Or.inr (Or.inr (Or.inr (Or.inl ⟨_, _, rfl, fl_ldI c41 (by decide) (by decide), rfl⟩)))))))) ?_
  rw [s2]
  refine XW.call (d' := d) (mc' := 0) (ms' := 0) (av := [.int 0, .int (I 41 10)]) (rest := [.ref 46, .int (I 47 3), .ref 50]) (M := mr_112) (Ma := mr_22) rfl (show mcode 112 55 = some (55, .invokestatic 57, 3, 22, 0, 0, _) from rfl) rfl (by decide) (by decide) rfl rfl rfl (show 3 ≤ 8 by decide) tc_max (by omega) (Nat.zero_le _) (Nat.zero_le _) (fun r w' hQ => ?_)
  obtain ⟨rfl, rfl⟩ := hQ
  generalize en : (if (0 : Int32) < I 41 10 then I 41 10 else 0) = n
  have hn : 0 ≤ n.toInt ∧ n.toInt ≤ 240 := by
    rw [← en]
    split
    · exact hs
    · decide
  refine XW.call (d' := d + 1) (mc' := 1) (ms' := 240) (av := [.ref 46, .int n]) (rest := [.int (I 47 3), .ref 50]) (M := mr_112) (Ma := mr_113) rfl (show mcode 112 58 = some (58, .invokestatic 63, 3, 113, 0, 0, _) from rfl) rfl (by decide) (by decide) rfl rfl rfl (show 2 ≤ 8 by decide) (tc_copy c46 hf2 hn.1 hn.2) (by omega) (Nat.le_refl _) (Nat.le_refl _) (fun r w' hQ => ?_)
  obtain ⟨rfl, mm, I3, hmm, rfl, hI3⟩ := hQ
  refine XW.aas (n := 20) (nz := mm) (by rw [List.getElem?_append_left (by omega)]; exact c50) (by rw [List.getElem?_append_right (Nat.le_refl _), Nat.sub_self]; rfl) hin ?_
  have hw3 := wE_new (k0 := (I 47 3).toNatClampNeg) hw2 hmm hI3
  have c47' : (sh ++ [.inl (.int, mm)])[47]? = some (.inr 6) := by rw [List.getElem?_append_left (by omega)]; exact c47
  have m3 : I3 47 3 = I 47 3 := (hI3 47 3 (by omega)).trans m2
  generalize eR : up2 R 50 (I 47 3).toNatClampNeg (some sh.length) = R3 at hw3
  refine XW.fam (S' := (63, [(0, .ref 47), (1, .int day), (2, .ref 41)], [.ref 47], (sh ++ [.inl (.int, mm)], I3, L, R3))) (M := mr_112) rfl (show mcode 112 62 = some (62, .aload_n 0, 1, 0, 0, 0, _) from rfl) (Or.inl ⟨.ref 47, rfl, rfl⟩) ?_
  refine XW.fam (S' := (64, [(0, .ref 47), (1, .int day), (2, .ref 41)], [.ref 47, .ref 47], (sh ++ [.inl (.int, mm)], I3, L, R3))) (M := mr_112) rfl (show mcode 112 63 = some (63, .dup, 1, 0, 0, 0, _) from rfl) (Or.inr (Or.inr (Or.inr (Or.inr (Or.inr (Or.inl ⟨_, rfl, rfl⟩)))))) ?_
  refine XW.fam (S' := (67, [(0, .ref 47), (1, .int day), (2, .ref 41)], [.int (I3 47 3), .ref 47], (sh ++ [.inl (.int, mm)], I3, L, R3))) (M := mr_112) rfl (show mcode 112 64 = some (64, .getfield 41, 3, 6, 3, 0, _) from rfl) (Or.inr (Or.inr (Or.inr (Or.inr (Or.inr (Or.inr (Or.inr (Or.inl ⟨_, _, rfl, fl_ldI c47' (by decide) (by decide), rfl⟩)))))))) ?_
  rw [m3]
  refine XW.fam (S' := (68, [(0, .ref 47), (1, .int day), (2, .ref 41)], [.int 1, .int (I 47 3), .ref 47], (sh ++ [.inl (.int, mm)], I3, L, R3))) (M := mr_112) rfl (show mcode 112 67 = some (67, .iconst 1, 1, 0, 0, 0, _) from rfl) (Or.inl ⟨.int 1, rfl, rfl⟩) ?_
  refine XW.fam (S' := (69, [(0, .ref 47), (1, .int day), (2, .ref 41)], [.int (I 47 3 + 1), .ref 47], (sh ++ [.inl (.int, mm)], I3, L, R3))) (M := mr_112) rfl (show mcode 112 68 = some (68, .iadd, 1, 0, 0, 0, _) from rfl) (Or.inr (Or.inr (Or.inr (Or.inr (Or.inr (Or.inl ⟨_, rfl, rfl⟩)))))) ?_
  refine XW.fam (S' := (72, [(0, .ref 47), (1, .int day), (2, .ref 41)], [], (sh ++ [.inl (.int, mm)], up2 I3 47 3 (I 47 3 + 1), L, R3))) (M := mr_112) rfl (show mcode 112 69 = some (69, .putfield 41, 3, 6, 3, 0, _) from rfl) (Or.inr (Or.inr (Or.inr (Or.inr (Or.inr (Or.inr (Or.inr (Or.inr (Or.inl ⟨_, _, _, rfl, stf_I c47' (by decide) (by decide) (by decide), rfl⟩))))))))) ?_
  have ea : (I 47 3 + 1).toInt = (I 47 3).toInt + 1 := by
    rw [Int32.toInt_add]
    have e : (1 : Int32).toInt = 1 := rfl
    rw [e]
    exact bm32 (by unfold lo32; omega) (by unfold hi32; omega)
  have hw4 := wOK_u2 (q := 47) (k := 3) (x := I 47 3 + 1) wE_put hw3 rfl (by show (0 : Int) ≤ _; omega) (by show _ ≤ (20 : Int); omega)
  have hf4 : fresh (sh ++ [.inl (.int, mm)], up2 I3 47 3 (I 47 3 + 1), L, R3) := by
    intro a ha k
    have ha : (sh ++ [(.inl (.int, mm) : mE)]).length ≤ a := ha
    rw [List.length_append, List.length_singleton] at ha
    have h2 := hf2 a (by show sh.length ≤ a; omega) k
    refine ⟨?_, h2.2.1, ?_⟩
    · show up2 I3 47 3 (I 47 3 + 1) a k = 0
      rw [up2_ne (fun e => by have := e.1; omega), hI3 a k (by omega)]
      exact h2.1
    · show R3 a k = none
      rw [← eR]
      unfold up2
      rw [if_neg (by omega)]
      exact h2.2.2
  have hk4 : ∀ q k, q < 170 → inm mdR q k = false → up2 I3 47 3 (I 47 3 + 1) q k = I q k := by
    intro q k hq hm
    obtain ⟨n1, n2, n3, -⟩ := mdR_ne hm
    rw [up2_ne n3, hI3 q k (by omega), ← eI2, up2_ne (fun e => n2 e.1), ← eI1, up2_ne (fun e => n1 e.1)]
  generalize up2 I3 47 3 (I 47 3 + 1) = I4 at hw4 hf4 hk4
  refine XW.fam (S' := (73, [(0, .ref 47), (1, .int day), (2, .ref 41)], [.ref 47], (sh ++ [.inl (.int, mm)], I4, L, R3))) (M := mr_112) rfl (show mcode 112 72 = some (72, .aload_n 0, 1, 0, 0, 0, _) from rfl) (Or.inl ⟨.ref 47, rfl, rfl⟩) ?_
  refine XW.fam (S' := (76, [(0, .ref 47), (1, .int day), (2, .ref 41)], [.int (I4 47 3)], (sh ++ [.inl (.int, mm)], I4, L, R3))) (M := mr_112) rfl (show mcode 112 73 = some (73, .getfield 41, 3, 6, 3, 0, _) from rfl) (Or.inr (Or.inr (Or.inr (Or.inr (Or.inr (Or.inr (Or.inr (Or.inl ⟨_, _, rfl, fl_ldI c47' (by decide) (by decide), rfl⟩)))))))) ?_
  refine XW.fam (S' := (77, [(0, .ref 47), (1, .int day), (2, .ref 41)], [.int 1, .int (I4 47 3)], (sh ++ [.inl (.int, mm)], I4, L, R3))) (M := mr_112) rfl (show mcode 112 76 = some (76, .iconst 1, 1, 0, 0, 0, _) from rfl) (Or.inl ⟨.int 1, rfl, rfl⟩) ?_
  refine XW.fam (S' := (78, [(0, .ref 47), (1, .int day), (2, .ref 41)], [.int (I4 47 3 - 1)], (sh ++ [.inl (.int, mm)], I4, L, R3))) (M := mr_112) rfl (show mcode 112 77 = some (77, .isub, 1, 0, 0, 0, _) from rfl) (Or.inr (Or.inr (Or.inr (Or.inr (Or.inr (Or.inl ⟨_, rfl, rfl⟩)))))) ?_
  exact XW.ret (r := some (.int (I4 47 3 - 1))) ⟨⟨.int, rfl, rfl⟩, by decide +kernel⟩ ⟨hf4, ⟨_, rfl⟩, ⟨_, _, hw4⟩, hk4⟩
