/-! ===== isWord, nameOf of the model (wip/genmword.py) ===== -/
theorem bm64 {x : Int} (h1 : -9223372036854775808 ≤ x) (h2 : x ≤ 9223372036854775807) : x.bmod (2 ^ 64) = x := Int.bmod_eq_of_le (by omega) (by omega)
theorem lg_eq {x y : Int64} : (lg_cmp x y).toInt = 0 ↔ x.toInt = y.toInt := by
  unfold lg_cmp
  by_cases a : x > y
  · have a1 := Int64.lt_iff_toInt_lt.mp a
    rw [if_pos a]
    exact ⟨fun h => absurd h (by decide), fun h => by omega⟩
  · rw [if_neg a]
    by_cases b : x = y
    · rw [if_pos b, b]
      exact ⟨fun _ => rfl, fun _ => rfl⟩
    · rw [if_neg b]
      exact ⟨fun h => absurd h (by decide), fun h => absurd (Int64.toInt_inj.mp h) b⟩
theorem p27 : ∀ m, m ≤ 12 → (27 : Int) ^ m ≤ 150094635296999121 := by decide
theorem isw_lp {d p : Nat} {sh : List mE} {I : Nat → Nat → Int32} {L : Nat → Nat → Int64} {R : Nat → Nat → Option Nat} {w : Int64} (hw : wOK (mkT vV []) (wE sh R) (sh, I, L, R)) (hs : mst (fun k => (I 122 k).toInt) (I 94 34).toInt.toNat I p) (hpn : p ≤ (I 94 34).toInt.toNat) (hm1 : mtok (fun k => (I 122 k).toInt) (I 94 34).toInt.toNat p = 1) (hm2 : tkE (fun k => (I 122 k).toInt) (I 94 34).toInt.toNat p - p ≤ 12) (hlt : ∀ k, k < tkE (fun k => (I 122 k).toInt) (I 94 34).toInt.toNat p - p → 97 ≤ (I 122 (p + k)).toInt ∧ (I 122 (p + k)).toInt ≤ 122) : ∀ (z : Nat) (k : Int32) (v : Int64), (p : Int) ≤ k.toInt → k.toInt ≤ (tkE (fun k => (I 122 k).toInt) (I 94 34).toInt.toNat p : Int) → (tkE (fun k => (I 122 k).toInt) (I 94 34).toInt.toNat p : Int) - k.toInt < z → v.toInt = wV (fun k => (I 122 k).toInt) p (k.toInt.toNat - p) → XW 282 mr_282 none d 0 0 (fun r w' => ((r = some (.int 0) ∧ ¬ (mtok (fun k => (I 122 k).toInt) (I 94 34).toInt.toNat p = 1 ∧ tkE (fun k => (I 122 k).toInt) (I 94 34).toInt.toNat p - p ≤ 12 ∧ wV (fun k => (I 122 k).toInt) p (tkE (fun k => (I 122 k).toInt) (I 94 34).toInt.toNat p - p) = w.toInt)) ∨ (r = some (.int 1) ∧ (mtok (fun k => (I 122 k).toInt) (I 94 34).toInt.toNat p = 1 ∧ tkE (fun k => (I 122 k).toInt) (I 94 34).toInt.toNat p - p ≤ 12 ∧ wV (fun k => (I 122 k).toInt) p (tkE (fun k => (I 122 k).toInt) (I 94 34).toInt.toNat p - p) = w.toInt))) ∧ w' = (sh, I, L, R)) (32, [(5, .int k), (3, .long v), (0, .ref 94), (1, .long w)], [], (sh, I, L, R)) := by
  have c94 : sh[94]? = some (.inr 12) := hw.1 94 _ rfl
  have c122 : sh[122]? = some (.inl (.byte, 240)) := hw.1 122 _ rfl
  have r94_33 : R 94 33 = some 122 := hw.2.1 94 33 _ rfl
  have z0 : (0 : Int32).toInt = 0 := rfl
  have z1 : (1 : Int32).toInt = 1 := rfl
  obtain ⟨fv, efv⟩ : ∃ z : Int32, I 94 46 = z := ⟨_, rfl⟩
  obtain ⟨gv, egv⟩ : ∃ z : Int32, I 94 47 = z := ⟨_, rfl⟩
  obtain ⟨tk, etk⟩ : ∃ z : Int32, I 94 48 = z := ⟨_, rfl⟩
  have hfv : fv.toInt = (p : Int) := by rw [← efv]; exact hs.1
  have hgv : gv.toInt = (tkE (fun k => (I 122 k).toInt) (I 94 34).toInt.toNat p : Int) := by rw [← egv]; exact hs.2.1
  have htk : tk.toInt = mtok (fun k => (I 122 k).toInt) (I 94 34).toInt.toNat p := by rw [← etk]; exact hs.2.2
  have hl0 : 0 ≤ (I 94 34).toInt ∧ (I 94 34).toInt ≤ 240 := hw.2.2.1 94 34
  have hge := tkE_rng (b := (fun k => (I 122 k).toInt)) (n := (I 94 34).toInt.toNat) (p := p)
  have hgp : p ≤ tkE (fun k => (I 122 k).toInt) (I 94 34).toInt.toNat p ∧ tkE (fun k => (I 122 k).toInt) (I 94 34).toInt.toNat p ≤ (I 94 34).toInt.toNat := by
    by_cases c : p < (I 94 34).toInt.toNat
    · have := hge.1 c
      omega
    · have := hge.2 c
      omega
  intro z
  induction z with
  | zero =>
    intro k v h1 h2 hz
    exfalso
    omega
  | succ z ih =>
    intro k v h1 h2 hz hv
    refine XW.fam (S' := (34, [(5, .int k), (3, .long v), (0, .ref 94), (1, .long w)], [.int k], (sh, I, L, R))) (M := mr_282) rfl (show mcode 282 32 = some (32, .iload 5, 2, 0, 0, 0, _) from rfl) (Or.inl ⟨.int k, rfl, rfl⟩) ?_
    refine XW.fam (S' := (35, [(5, .int k), (3, .long v), (0, .ref 94), (1, .long w)], [.ref 94, .int k], (sh, I, L, R))) (M := mr_282) rfl (show mcode 282 34 = some (34, .aload_n 0, 1, 0, 0, 0, _) from rfl) (Or.inl ⟨.ref 94, rfl, rfl⟩) ?_
    refine XW.fam (S' := (38, [(5, .int k), (3, .long v), (0, .ref 94), (1, .long w)], [.int (I 94 47), .int k], (sh, I, L, R))) (M := mr_282) rfl (show mcode 282 35 = some (35, .getfield 348, 3, 12, 47, 0, _) from rfl) (Or.inr (Or.inr (Or.inr (Or.inr (Or.inr (Or.inr (Or.inr (Or.inl ⟨_, _, rfl, fl_ldI c94 (by decide) (by decide), rfl⟩)))))))) ?_
    rw [egv]
    cases k1 : bcmp .ge k gv with
    | true =>
      have gk1 : (gv).toInt ≤ (k).toInt := icT (c := .ge) (a := (k).toInt) (b := (gv).toInt) rfl rfl k1
      refine XW.fam (S' := (66, [(5, .int k), (3, .long v), (0, .ref 94), (1, .long w)], [], (sh, I, L, R))) (M := mr_282) rfl (show mcode 282 38 = some (38, .if_icmp .ge 28, 3, 66, 0, 0, _) from rfl) (Or.inr (Or.inl ⟨66, [], by simp [brn, k1], rfl⟩)) ?_
      refine XW.fam (S' := (67, [(5, .int k), (3, .long v), (0, .ref 94), (1, .long w)], [.long v], (sh, I, L, R))) (M := mr_282) rfl (show mcode 282 66 = some (66, .lload_n 3, 1, 0, 0, 0, _) from rfl) (Or.inl ⟨.long v, rfl, rfl⟩) ?_
      refine XW.fam (S' := (68, [(5, .int k), (3, .long v), (0, .ref 94), (1, .long w)], [.long w, .long v], (sh, I, L, R))) (M := mr_282) rfl (show mcode 282 67 = some (67, .lload_n 1, 1, 0, 0, 0, _) from rfl) (Or.inl ⟨.long w, rfl, rfl⟩) ?_
      refine XW.fam (S' := (69, [(5, .int k), (3, .long v), (0, .ref 94), (1, .long w)], [.int (lg_cmp v w)], (sh, I, L, R))) (M := mr_282) rfl (show mcode 282 68 = some (68, .lcmp, 1, 0, 0, 0, _) from rfl) (Or.inr (Or.inr (Or.inr (Or.inr (Or.inr (Or.inl ⟨_, rfl, rfl⟩)))))) ?_
      cases k2 : bcmp .ne (lg_cmp v w) 0 with
      | true =>
        have gk2 : ¬ ((lg_cmp v w)).toInt = 0 := icT (c := .ne) (a := ((lg_cmp v w)).toInt) (b := 0) rfl (by decide) k2
        refine XW.fam (S' := (76, [(5, .int k), (3, .long v), (0, .ref 94), (1, .long w)], [], (sh, I, L, R))) (M := mr_282) rfl (show mcode 282 69 = some (69, .ifCond .ne 7, 3, 76, 0, 0, _) from rfl) (Or.inr (Or.inl ⟨76, [], by simp [brn, k2], rfl⟩)) ?_
        refine XW.fam (S' := (77, [(5, .int k), (3, .long v), (0, .ref 94), (1, .long w)], [.int 0], (sh, I, L, R))) (M := mr_282) rfl (show mcode 282 76 = some (76, .iconst 0, 1, 0, 0, 0, _) from rfl) (Or.inl ⟨.int 0, rfl, rfl⟩) ?_
        refine XW.ret (r := some (.int 0)) ⟨⟨.boolean, rfl, rfl⟩, by decide +kernel⟩ ?_
        have ek : k.toInt.toNat - p = tkE (fun k => (I 122 k).toInt) (I 94 34).toInt.toNat p - p := by omega
        rw [ek] at hv
        have q := lg_eq (x := v) (y := w)
        exact ⟨Or.inl ⟨rfl, fun z => by have z2 := z.2.2; omega⟩, rfl⟩
      | false =>
        have gk2 : ¬ (¬ ((lg_cmp v w)).toInt = 0) := icF (c := .ne) (a := ((lg_cmp v w)).toInt) (b := 0) rfl (by decide) k2
        refine XW.fam (S' := (72, [(5, .int k), (3, .long v), (0, .ref 94), (1, .long w)], [], (sh, I, L, R))) (M := mr_282) rfl (show mcode 282 69 = some (69, .ifCond .ne 7, 3, 76, 0, 0, _) from rfl) (Or.inr (Or.inl ⟨72, [], by simp [brn, k2], rfl⟩)) ?_
        refine XW.fam (S' := (73, [(5, .int k), (3, .long v), (0, .ref 94), (1, .long w)], [.int 1], (sh, I, L, R))) (M := mr_282) rfl (show mcode 282 72 = some (72, .iconst 1, 1, 0, 0, 0, _) from rfl) (Or.inl ⟨.int 1, rfl, rfl⟩) ?_
        refine XW.fam (S' := (77, [(5, .int k), (3, .long v), (0, .ref 94), (1, .long w)], [.int 1], (sh, I, L, R))) (M := mr_282) rfl (show mcode 282 73 = some (73, .goto 4, 3, 77, 0, 0, _) from rfl) (Or.inr (Or.inl ⟨77, [.int 1], rfl, rfl⟩)) ?_
        refine XW.ret (r := some (.int 1)) ⟨⟨.boolean, rfl, rfl⟩, by decide +kernel⟩ ?_
        have ek : k.toInt.toNat - p = tkE (fun k => (I 122 k).toInt) (I 94 34).toInt.toNat p - p := by omega
        rw [ek] at hv
        have q := lg_eq (x := v) (y := w)
        exact ⟨Or.inr ⟨rfl, hm1, hm2, by omega⟩, rfl⟩
    | false =>
      have gk1 : ¬ ((gv).toInt ≤ (k).toInt) := icF (c := .ge) (a := (k).toInt) (b := (gv).toInt) rfl rfl k1
      refine XW.fam (S' := (41, [(5, .int k), (3, .long v), (0, .ref 94), (1, .long w)], [], (sh, I, L, R))) (M := mr_282) rfl (show mcode 282 38 = some (38, .if_icmp .ge 28, 3, 66, 0, 0, _) from rfl) (Or.inr (Or.inl ⟨41, [], by simp [brn, k1], rfl⟩)) ?_
      refine XW.fam (S' := (44, [(5, .int k), (3, .long v), (0, .ref 94), (1, .long w)], [.long 27], (sh, I, L, R))) (M := mr_282) rfl (show mcode 282 41 = some (41, .ldc2_w 366, 3, 0, 0, 27, _) from rfl) (Or.inr (Or.inr (Or.inr (Or.inr (Or.inl ⟨.long 27, rfl, rfl⟩))))) ?_
      refine XW.fam (S' := (45, [(5, .int k), (3, .long v), (0, .ref 94), (1, .long w)], [.long v, .long 27], (sh, I, L, R))) (M := mr_282) rfl (show mcode 282 44 = some (44, .lload_n 3, 1, 0, 0, 0, _) from rfl) (Or.inl ⟨.long v, rfl, rfl⟩) ?_
      refine XW.fam (S' := (46, [(5, .int k), (3, .long v), (0, .ref 94), (1, .long w)], [.long (27 * v)], (sh, I, L, R))) (M := mr_282) rfl (show mcode 282 45 = some (45, .lmul, 1, 0, 0, 0, _) from rfl) (Or.inr (Or.inr (Or.inr (Or.inr (Or.inr (Or.inl ⟨_, rfl, rfl⟩)))))) ?_
      refine XW.fam (S' := (47, [(5, .int k), (3, .long v), (0, .ref 94), (1, .long w)], [.ref 94, .long (27 * v)], (sh, I, L, R))) (M := mr_282) rfl (show mcode 282 46 = some (46, .aload_n 0, 1, 0, 0, 0, _) from rfl) (Or.inl ⟨.ref 94, rfl, rfl⟩) ?_
      refine XW.fam (S' := (50, [(5, .int k), (3, .long v), (0, .ref 94), (1, .long w)], [.ref 122, .long (27 * v)], (sh, I, L, R))) (M := mr_282) rfl (show mcode 282 47 = some (47, .getfield 96, 3, 12, 33, 0, _) from rfl) (Or.inr (Or.inr (Or.inr (Or.inr (Or.inr (Or.inr (Or.inr (Or.inl ⟨_, _, rfl, fl_ld c94 r94_33 (by decide) (by decide), rfl⟩)))))))) ?_
      refine XW.fam (S' := (52, [(5, .int k), (3, .long v), (0, .ref 94), (1, .long w)], [.int k, .ref 122, .long (27 * v)], (sh, I, L, R))) (M := mr_282) rfl (show mcode 282 50 = some (50, .iload 5, 2, 0, 0, 0, _) from rfl) (Or.inl ⟨.int k, rfl, rfl⟩) ?_
      have hin3 : inR k 240 = true := inR_of (by omega) (by omega)
      refine XW.fam (S' := (53, [(5, .int k), (3, .long v), (0, .ref 94), (1, .long w)], [.int (I 122 (k).toNatClampNeg), .long (27 * v)], (sh, I, L, R))) (M := mr_282) rfl (show mcode 282 52 = some (52, .baload, 1, 0, 0, 0, _) from rfl) (Or.inr (Or.inr (Or.inl ⟨_, lda_y c122 hin3, rfl⟩))) ?_
      refine XW.fam (S' := (54, [(5, .int k), (3, .long v), (0, .ref 94), (1, .long w)], [.long ((I 122 (k).toNatClampNeg)).toInt64, .long (27 * v)], (sh, I, L, R))) (M := mr_282) rfl (show mcode 282 53 = some (53, .i2l, 1, 0, 0, 0, _) from rfl) (Or.inr (Or.inr (Or.inr (Or.inr (Or.inr (Or.inl ⟨_, rfl, rfl⟩)))))) ?_
      refine XW.fam (S' := (55, [(5, .int k), (3, .long v), (0, .ref 94), (1, .long w)], [.long ((27 * v) + ((I 122 (k).toNatClampNeg)).toInt64)], (sh, I, L, R))) (M := mr_282) rfl (show mcode 282 54 = some (54, .ladd, 1, 0, 0, 0, _) from rfl) (Or.inr (Or.inr (Or.inr (Or.inr (Or.inr (Or.inl ⟨_, rfl, rfl⟩)))))) ?_
      refine XW.fam (S' := (58, [(5, .int k), (3, .long v), (0, .ref 94), (1, .long w)], [.long 96, .long ((27 * v) + ((I 122 (k).toNatClampNeg)).toInt64)], (sh, I, L, R))) (M := mr_282) rfl (show mcode 282 55 = some (55, .ldc2_w 368, 3, 0, 0, 96, _) from rfl) (Or.inr (Or.inr (Or.inr (Or.inr (Or.inl ⟨.long 96, rfl, rfl⟩))))) ?_
      refine XW.fam (S' := (59, [(5, .int k), (3, .long v), (0, .ref 94), (1, .long w)], [.long (((27 * v) + ((I 122 (k).toNatClampNeg)).toInt64) - 96)], (sh, I, L, R))) (M := mr_282) rfl (show mcode 282 58 = some (58, .lsub, 1, 0, 0, 0, _) from rfl) (Or.inr (Or.inr (Or.inr (Or.inr (Or.inr (Or.inl ⟨_, rfl, rfl⟩)))))) ?_
      refine XW.fam (S' := (60, [(3, .long (((27 * v) + ((I 122 (k).toNatClampNeg)).toInt64) - 96)), (5, .int k), (0, .ref 94), (1, .long w)], [], (sh, I, L, R))) (M := mr_282) rfl (show mcode 282 59 = some (59, .lstore_n 3, 1, 0, 0, 0, _) from rfl) (Or.inr (Or.inr (Or.inr (Or.inr (Or.inr (Or.inr (Or.inl ⟨_, [], _, rfl, rfl, rfl⟩))))))) ?_
      refine XW.fam (S' := (63, [(5, .int (k + Int32.ofInt 1)), (3, .long (((27 * v) + ((I 122 (k).toNatClampNeg)).toInt64) - 96)), (0, .ref 94), (1, .long w)], [], (sh, I, L, R))) (M := mr_282) rfl (show mcode 282 60 = some (60, .iinc 5 1, 3, 0, 0, 0, _) from rfl) (Or.inr (Or.inr (Or.inr (Or.inr (Or.inr (Or.inr (Or.inr (Or.inr (Or.inr ⟨5, 1, k, rfl, rfl, by decide, rfl⟩))))))))) ?_
      refine XW.fam (S' := (32, [(5, .int (k + Int32.ofInt 1)), (3, .long (((27 * v) + ((I 122 (k).toNatClampNeg)).toInt64) - 96)), (0, .ref 94), (1, .long w)], [], (sh, I, L, R))) (M := mr_282) rfl (show mcode 282 63 = some (63, .goto (-31), 3, 32, 0, 0, _) from rfl) (Or.inr (Or.inl ⟨32, [], rfl, rfl⟩)) ?_
      have eo := incO (m := k) (by omega) (by omega)
      have en1 : (k + Int32.ofInt 1).toInt.toNat - p = (k.toInt.toNat - p) + 1 := by omega
      have hx := hlt (k.toInt.toNat - p) (by omega)
      have ekk : p + (k.toInt.toNat - p) = (k).toNatClampNeg := by show _ = k.toInt.toNat; omega
      rw [ekk] at hx
      have hvp := wV_pos (b := (fun k => (I 122 k).toInt)) (p := p) (m := k.toInt.toNat - p) (fun q hq => hlt q (by omega))
      have hvl := wV_lt (b := (fun k => (I 122 k).toInt)) (p := p) (m := k.toInt.toNat - p) (fun q hq => hlt q (by omega))
      have hv12 := p27 (k.toInt.toNat - p) (by omega)
      rw [← hv] at hvp hvl
      have z27 : (27 : Int64).toInt = 27 := rfl
      have z96 : (96 : Int64).toInt = 96 := rfl
      have m1 : (27 * v).toInt = 27 * v.toInt := by rw [Int64.toInt_mul, z27]; exact bm64 (by omega) (by omega)
      have m2 : (27 * v + (I 122 (k).toNatClampNeg).toInt64).toInt = 27 * v.toInt + (I 122 (k).toNatClampNeg).toInt := by rw [Int64.toInt_add, m1, Int32.toInt_toInt64]; exact bm64 (by omega) (by omega)
      have m3 : (27 * v + (I 122 (k).toNatClampNeg).toInt64 - 96).toInt = 27 * v.toInt + (I 122 (k).toNatClampNeg).toInt - 96 := by rw [Int64.toInt_sub, m2, z96]; exact bm64 (by omega) (by omega)
      obtain ⟨v2, ev2⟩ : ∃ z : Int64, (((27 * v) + ((I 122 (k).toNatClampNeg)).toInt64) - 96) = z := ⟨_, rfl⟩
      rw [ev2] at m3 ⊢
      refine XW.sub (ls' := [(5, .int (k + Int32.ofInt 1)), (3, .long v2), (0, .ref 94), (1, .long w)]) (List.forall_mem_cons.mpr ⟨List.mem_of_getElem? (i := 0) rfl, (List.forall_mem_cons.mpr ⟨List.mem_of_getElem? (i := 1) rfl, (List.forall_mem_cons.mpr ⟨List.mem_of_getElem? (i := 2) rfl, (List.forall_mem_cons.mpr ⟨List.mem_of_getElem? (i := 3) rfl, (fun _ h => absurd h List.not_mem_nil)⟩)⟩)⟩)⟩) ?_
      refine ih (k + Int32.ofInt 1) v2 (by omega) (by omega) (by omega) ?_
      rw [en1]
      show v2.toInt = 27 * wV (fun k => (I 122 k).toInt) p (k.toInt.toNat - p) + ((I 122 (p + (k.toInt.toNat - p))).toInt - 96)
      rw [ekk, ← hv]
      omega
theorem mtok_let {b : Nat → Int} {n p : Nat} (h : mtok b n p = 1) : ∀ k, k < tkE b n p - p → 97 ≤ b (p + k) ∧ b (p + k) ≤ 122 := by
  unfold mtok at h
  by_cases l : p < n
  · rw [if_pos l] at h
    by_cases a : tL (b p) = true
    · intro k hk
      have e : tkE b n p = tE (cL b) n p := by
        unfold tkE
        rw [if_pos l, if_pos a]
      rw [e] at hk
      exact tL_iff.mp (tE_in (c := cL b) (n := n) (n - p + 1) p (p + k) (by omega) (by omega) (by omega)).2
    · rw [if_neg a] at h
      exfalso
      split at h
      · split at h <;> omega
      · split at h
        · next q =>
          have := tL_iff (x := b p)
          omega
        · omega
  · rw [if_neg l] at h
    omega
theorem tc_isw {d p : Nat} {sh : List mE} {I : Nat → Nat → Int32} {L : Nat → Nat → Int64} {R : Nat → Nat → Option Nat} {w : Int64} (hw : wOK (mkT vV []) (wE sh R) (sh, I, L, R)) (hs : mst (fun k => (I 122 k).toInt) (I 94 34).toInt.toNat I p) (hpn : p ≤ (I 94 34).toInt.toNat) : Tc 282 d 0 0 [.ref 94, .long w] (sh, I, L, R) (fun r w' => ((r = some (.int 0) ∧ ¬ (mtok (fun k => (I 122 k).toInt) (I 94 34).toInt.toNat p = 1 ∧ tkE (fun k => (I 122 k).toInt) (I 94 34).toInt.toNat p - p ≤ 12 ∧ wV (fun k => (I 122 k).toInt) p (tkE (fun k => (I 122 k).toInt) (I 94 34).toInt.toNat p - p) = w.toInt)) ∨ (r = some (.int 1) ∧ (mtok (fun k => (I 122 k).toInt) (I 94 34).toInt.toNat p = 1 ∧ tkE (fun k => (I 122 k).toInt) (I 94 34).toInt.toNat p - p ≤ 12 ∧ wV (fun k => (I 122 k).toInt) p (tkE (fun k => (I 122 k).toInt) (I 94 34).toInt.toNat p - p) = w.toInt))) ∧ w' = (sh, I, L, R)) := by
  have c94 : sh[94]? = some (.inr 12) := hw.1 94 _ rfl
  have z0 : (0 : Int32).toInt = 0 := rfl
  have z1 : (1 : Int32).toInt = 1 := rfl
  have z12 : (12 : Int32).toInt = 12 := rfl
  obtain ⟨fv, efv⟩ : ∃ z : Int32, I 94 46 = z := ⟨_, rfl⟩
  obtain ⟨gv, egv⟩ : ∃ z : Int32, I 94 47 = z := ⟨_, rfl⟩
  obtain ⟨tk, etk⟩ : ∃ z : Int32, I 94 48 = z := ⟨_, rfl⟩
  have hfv : fv.toInt = (p : Int) := by rw [← efv]; exact hs.1
  have hgv : gv.toInt = (tkE (fun k => (I 122 k).toInt) (I 94 34).toInt.toNat p : Int) := by rw [← egv]; exact hs.2.1
  have htk : tk.toInt = mtok (fun k => (I 122 k).toInt) (I 94 34).toInt.toNat p := by rw [← etk]; exact hs.2.2
  have hl0 : 0 ≤ (I 94 34).toInt ∧ (I 94 34).toInt ≤ 240 := hw.2.2.1 94 34
  have hge := tkE_rng (b := (fun k => (I 122 k).toInt)) (n := (I 94 34).toInt.toNat) (p := p)
  have hgp : p ≤ tkE (fun k => (I 122 k).toInt) (I 94 34).toInt.toNat p ∧ tkE (fun k => (I 122 k).toInt) (I 94 34).toInt.toNat p ≤ (I 94 34).toInt.toNat := by
    by_cases c : p < (I 94 34).toInt.toNat
    · have := hge.1 c
      omega
    · have := hge.2 c
      omega
  refine Tc.of mr_282 rfl (show 3 ≤ mr_282.2.2.2.1 by decide) ?_
  refine XW.fam (S' := (1, [(0, .ref 94), (1, .long w)], [.ref 94], (sh, I, L, R))) (M := mr_282) rfl (show mcode 282 0 = some (0, .aload_n 0, 1, 0, 0, 0, _) from rfl) (Or.inl ⟨.ref 94, rfl, rfl⟩) ?_
  refine XW.fam (S' := (4, [(0, .ref 94), (1, .long w)], [.int (I 94 48)], (sh, I, L, R))) (M := mr_282) rfl (show mcode 282 1 = some (1, .getfield 354, 3, 12, 48, 0, _) from rfl) (Or.inr (Or.inr (Or.inr (Or.inr (Or.inr (Or.inr (Or.inr (Or.inl ⟨_, _, rfl, fl_ldI c94 (by decide) (by decide), rfl⟩)))))))) ?_
  rw [etk]
  refine XW.fam (S' := (5, [(0, .ref 94), (1, .long w)], [.int 1, .int tk], (sh, I, L, R))) (M := mr_282) rfl (show mcode 282 4 = some (4, .iconst 1, 1, 0, 0, 0, _) from rfl) (Or.inl ⟨.int 1, rfl, rfl⟩) ?_
  cases k1 : bcmp .ne tk 1 with
  | true =>
    have gk1 : ¬ (tk).toInt = 1 := icT (c := .ne) (a := (tk).toInt) (b := 1) rfl (by decide) k1
    refine XW.fam (S' := (22, [(0, .ref 94), (1, .long w)], [], (sh, I, L, R))) (M := mr_282) rfl (show mcode 282 5 = some (5, .if_icmp .ne 17, 3, 22, 0, 0, _) from rfl) (Or.inr (Or.inl ⟨22, [], by simp [brn, k1], rfl⟩)) ?_
    refine XW.fam (S' := (23, [(0, .ref 94), (1, .long w)], [.int 0], (sh, I, L, R))) (M := mr_282) rfl (show mcode 282 22 = some (22, .iconst 0, 1, 0, 0, 0, _) from rfl) (Or.inl ⟨.int 0, rfl, rfl⟩) ?_
    refine XW.ret (r := some (.int 0)) ⟨⟨.boolean, rfl, rfl⟩, by decide +kernel⟩ ?_
    exact ⟨Or.inl ⟨rfl, fun z => by have z1 := z.1; have z2 := z.2.1; omega⟩, rfl⟩
  | false =>
    have gk1 : ¬ (¬ (tk).toInt = 1) := icF (c := .ne) (a := (tk).toInt) (b := 1) rfl (by decide) k1
    refine XW.fam (S' := (8, [(0, .ref 94), (1, .long w)], [], (sh, I, L, R))) (M := mr_282) rfl (show mcode 282 5 = some (5, .if_icmp .ne 17, 3, 22, 0, 0, _) from rfl) (Or.inr (Or.inl ⟨8, [], by simp [brn, k1], rfl⟩)) ?_
    have hgd := difS (a := gv) (b := fv) (by omega) (by omega)
    refine XW.fam (S' := (9, [(0, .ref 94), (1, .long w)], [.ref 94], (sh, I, L, R))) (M := mr_282) rfl (show mcode 282 8 = some (8, .aload_n 0, 1, 0, 0, 0, _) from rfl) (Or.inl ⟨.ref 94, rfl, rfl⟩) ?_
    refine XW.fam (S' := (12, [(0, .ref 94), (1, .long w)], [.int (I 94 47)], (sh, I, L, R))) (M := mr_282) rfl (show mcode 282 9 = some (9, .getfield 348, 3, 12, 47, 0, _) from rfl) (Or.inr (Or.inr (Or.inr (Or.inr (Or.inr (Or.inr (Or.inr (Or.inl ⟨_, _, rfl, fl_ldI c94 (by decide) (by decide), rfl⟩)))))))) ?_
    rw [egv]
    refine XW.fam (S' := (13, [(0, .ref 94), (1, .long w)], [.ref 94, .int gv], (sh, I, L, R))) (M := mr_282) rfl (show mcode 282 12 = some (12, .aload_n 0, 1, 0, 0, 0, _) from rfl) (Or.inl ⟨.ref 94, rfl, rfl⟩) ?_
    refine XW.fam (S' := (16, [(0, .ref 94), (1, .long w)], [.int (I 94 46), .int gv], (sh, I, L, R))) (M := mr_282) rfl (show mcode 282 13 = some (13, .getfield 351, 3, 12, 46, 0, _) from rfl) (Or.inr (Or.inr (Or.inr (Or.inr (Or.inr (Or.inr (Or.inr (Or.inl ⟨_, _, rfl, fl_ldI c94 (by decide) (by decide), rfl⟩)))))))) ?_
    rw [efv]
    refine XW.fam (S' := (17, [(0, .ref 94), (1, .long w)], [.int (gv - fv)], (sh, I, L, R))) (M := mr_282) rfl (show mcode 282 16 = some (16, .isub, 1, 0, 0, 0, _) from rfl) (Or.inr (Or.inr (Or.inr (Or.inr (Or.inr (Or.inl ⟨_, rfl, rfl⟩)))))) ?_
    refine XW.fam (S' := (19, [(0, .ref 94), (1, .long w)], [.int 12, .int (gv - fv)], (sh, I, L, R))) (M := mr_282) rfl (show mcode 282 17 = some (17, .bipush 12, 2, 0, 0, 0, _) from rfl) (Or.inl ⟨.int 12, rfl, rfl⟩) ?_
    cases k2 : bcmp .le (gv - fv) 12 with
    | true =>
      have gk2 : ((gv - fv)).toInt ≤ 12 := icT (c := .le) (a := ((gv - fv)).toInt) (b := 12) rfl (by decide) k2
      refine XW.fam (S' := (24, [(0, .ref 94), (1, .long w)], [], (sh, I, L, R))) (M := mr_282) rfl (show mcode 282 19 = some (19, .if_icmp .le 5, 3, 24, 0, 0, _) from rfl) (Or.inr (Or.inl ⟨24, [], by simp [brn, k2], rfl⟩)) ?_
      refine XW.fam (S' := (25, [(0, .ref 94), (1, .long w)], [.long 0], (sh, I, L, R))) (M := mr_282) rfl (show mcode 282 24 = some (24, .lconst 0, 1, 0, 0, 0, _) from rfl) (Or.inl ⟨.long 0, rfl, rfl⟩) ?_
      refine XW.fam (S' := (26, [(3, .long 0), (0, .ref 94), (1, .long w)], [], (sh, I, L, R))) (M := mr_282) rfl (show mcode 282 25 = some (25, .lstore_n 3, 1, 0, 0, 0, _) from rfl) (Or.inr (Or.inr (Or.inr (Or.inr (Or.inr (Or.inr (Or.inl ⟨_, [], _, rfl, rfl, rfl⟩))))))) ?_
      refine XW.fam (S' := (27, [(3, .long 0), (0, .ref 94), (1, .long w)], [.ref 94], (sh, I, L, R))) (M := mr_282) rfl (show mcode 282 26 = some (26, .aload_n 0, 1, 0, 0, 0, _) from rfl) (Or.inl ⟨.ref 94, rfl, rfl⟩) ?_
      refine XW.fam (S' := (30, [(3, .long 0), (0, .ref 94), (1, .long w)], [.int (I 94 46)], (sh, I, L, R))) (M := mr_282) rfl (show mcode 282 27 = some (27, .getfield 351, 3, 12, 46, 0, _) from rfl) (Or.inr (Or.inr (Or.inr (Or.inr (Or.inr (Or.inr (Or.inr (Or.inl ⟨_, _, rfl, fl_ldI c94 (by decide) (by decide), rfl⟩)))))))) ?_
      rw [efv]
      refine XW.fam (S' := (32, [(5, .int fv), (3, .long 0), (0, .ref 94), (1, .long w)], [], (sh, I, L, R))) (M := mr_282) rfl (show mcode 282 30 = some (30, .istore 5, 2, 0, 0, 0, _) from rfl) (Or.inr (Or.inr (Or.inr (Or.inr (Or.inr (Or.inr (Or.inl ⟨_, [], _, rfl, rfl, rfl⟩))))))) ?_
      refine XW.sub (ls' := [(5, .int fv), (3, .long 0), (0, .ref 94), (1, .long w)]) (List.forall_mem_cons.mpr ⟨List.mem_of_getElem? (i := 0) rfl, (List.forall_mem_cons.mpr ⟨List.mem_of_getElem? (i := 1) rfl, (List.forall_mem_cons.mpr ⟨List.mem_of_getElem? (i := 2) rfl, (List.forall_mem_cons.mpr ⟨List.mem_of_getElem? (i := 3) rfl, (fun _ h => absurd h List.not_mem_nil)⟩)⟩)⟩)⟩) ?_
      have hm1 : mtok (fun k => (I 122 k).toInt) (I 94 34).toInt.toNat p = 1 := by omega
      have hlt : ∀ k, k < tkE (fun k => (I 122 k).toInt) (I 94 34).toInt.toNat p - p → 97 ≤ (I 122 (p + k)).toInt ∧ (I 122 (p + k)).toInt ≤ 122 := mtok_let hm1
      exact isw_lp (d := d) hw hs hpn hm1 (by omega) hlt 300 fv 0 (by omega) (by omega) (by omega) (by rw [show fv.toInt.toNat - p = 0 by omega]; rfl)
    | false =>
      have gk2 : ¬ (((gv - fv)).toInt ≤ 12) := icF (c := .le) (a := ((gv - fv)).toInt) (b := 12) rfl (by decide) k2
      refine XW.fam (S' := (22, [(0, .ref 94), (1, .long w)], [], (sh, I, L, R))) (M := mr_282) rfl (show mcode 282 19 = some (19, .if_icmp .le 5, 3, 24, 0, 0, _) from rfl) (Or.inr (Or.inl ⟨22, [], by simp [brn, k2], rfl⟩)) ?_
      refine XW.fam (S' := (23, [(0, .ref 94), (1, .long w)], [.int 0], (sh, I, L, R))) (M := mr_282) rfl (show mcode 282 22 = some (22, .iconst 0, 1, 0, 0, 0, _) from rfl) (Or.inl ⟨.int 0, rfl, rfl⟩) ?_
      refine XW.ret (r := some (.int 0)) ⟨⟨.boolean, rfl, rfl⟩, by decide +kernel⟩ ?_
      exact ⟨Or.inl ⟨rfl, fun z => by have z1 := z.1; have z2 := z.2.1; omega⟩, rfl⟩
theorem tc_isK {d p t : Nat} {sh : List mE} {I : Nat → Nat → Int32} {L : Nat → Nat → Int64} {R : Nat → Nat → Option Nat} {w : Int64} (hw : wOK (mkT vV []) (wE sh R) (sh, I, L, R)) (hs : mst (fun k => (I 122 k).toInt) (I 94 34).toInt.toNat I p) (hpn : p ≤ (I 94 34).toInt.toNat) (ht : t < 18) (hwt : wL[t]? = some w.toInt) : Tc 282 d 0 0 [.ref 94, .long w] (sh, I, L, R) (fun r w' => ((r = some (.int 0) ∧ ¬ tkK (fun k => (I 122 k).toInt) (I 94 34).toInt.toNat p = 256 + (t : Int)) ∨ (r = some (.int 1) ∧ tkK (fun k => (I 122 k).toInt) (I 94 34).toInt.toNat p = 256 + (t : Int))) ∧ w' = (sh, I, L, R)) := by
  have q := mtok_word (b := (fun k => (I 122 k).toInt)) (n := (I 94 34).toInt.toNat) (p := p) (t := t) (fun k => hw.2.2.1 122 k) ht hwt
  refine Tc.imp (tc_isw (d := d) (w := w) hw hs hpn) (fun r w' h => ⟨?_, h.2⟩)
  rcases h.1 with ⟨a, c⟩ | ⟨a, c⟩
  · exact Or.inl ⟨a, fun z => c (q.mpr z)⟩
  · exact Or.inr ⟨a, q.mp c⟩
theorem tc_nmo {d p : Nat} {sh : List mE} {I : Nat → Nat → Int32} {L : Nat → Nat → Int64} {R : Nat → Nat → Option Nat} (hw : wOK (mkT vV []) (wE sh R) (sh, I, L, R)) (hs : mst (fun k => (I 122 k).toInt) (I 94 34).toInt.toNat I p) (hpn : p ≤ (I 94 34).toInt.toNat) : Tc 290 (d + 1) 0 0 [.ref 94] (sh, I, L, R) (fun r w' => (∃ y : Int32, r = some (.int y) ∧ ((y.toInt = -1 ∧ ¬ (264 ≤ tkK (fun k => (I 122 k).toInt) (I 94 34).toInt.toNat p ∧ tkK (fun k => (I 122 k).toInt) (I 94 34).toInt.toNat p ≤ 273)) ∨ (264 ≤ tkK (fun k => (I 122 k).toInt) (I 94 34).toInt.toNat p ∧ tkK (fun k => (I 122 k).toInt) (I 94 34).toInt.toNat p ≤ 273 ∧ y.toInt = tkK (fun k => (I 122 k).toInt) (I 94 34).toInt.toNat p - 264))) ∧ w' = (sh, I, L, R)) := by
  have c94 : sh[94]? = some (.inr 12) := hw.1 94 _ rfl
  have zm1 : ((-1) : Int32).toInt = (-1) := rfl
  have z0 : (0 : Int32).toInt = 0 := rfl
  have z1 : (1 : Int32).toInt = 1 := rfl
  have z2 : (2 : Int32).toInt = 2 := rfl
  have z3 : (3 : Int32).toInt = 3 := rfl
  have z4 : (4 : Int32).toInt = 4 := rfl
  have z5 : (5 : Int32).toInt = 5 := rfl
  have z6 : (6 : Int32).toInt = 6 := rfl
  have z7 : (7 : Int32).toInt = 7 := rfl
  have z8 : (8 : Int32).toInt = 8 := rfl
  have z9 : (9 : Int32).toInt = 9 := rfl
  have z10 : (10 : Int32).toInt = 10 := rfl
  refine Tc.of mr_290 rfl (show 1 ≤ mr_290.2.2.2.1 by decide) ?_
  refine XW.fam (S' := (1, [(0, .ref 94)], [.int 0], (sh, I, L, R))) (M := mr_290) rfl (show mcode 290 0 = some (0, .iconst 0, 1, 0, 0, 0, _) from rfl) (Or.inl ⟨.int 0, rfl, rfl⟩) ?_
  refine XW.fam (S' := (2, [(1, .int 0), (0, .ref 94)], [], (sh, I, L, R))) (M := mr_290) rfl (show mcode 290 1 = some (1, .istore_n 1, 1, 0, 0, 0, _) from rfl) (Or.inr (Or.inr (Or.inr (Or.inr (Or.inr (Or.inr (Or.inl ⟨_, [], _, rfl, rfl, rfl⟩))))))) ?_
  refine XW.fam (S' := (3, [(1, .int 0), (0, .ref 94)], [.int 0], (sh, I, L, R))) (M := mr_290) rfl (show mcode 290 2 = some (2, .iload_n 1, 1, 0, 0, 0, _) from rfl) (Or.inl ⟨.int 0, rfl, rfl⟩) ?_
  refine XW.fam (S' := (5, [(1, .int 0), (0, .ref 94)], [.int 10, .int 0], (sh, I, L, R))) (M := mr_290) rfl (show mcode 290 3 = some (3, .bipush 10, 2, 0, 0, 0, _) from rfl) (Or.inl ⟨.int 10, rfl, rfl⟩) ?_
  refine XW.fam (S' := (8, [(1, .int 0), (0, .ref 94)], [], (sh, I, L, R))) (M := mr_290) rfl (show mcode 290 5 = some (5, .if_icmp .ge 23, 3, 28, 0, 0, _) from rfl) (Or.inr (Or.inl ⟨8, [], rfl, rfl⟩)) ?_
  refine XW.fam (S' := (9, [(1, .int 0), (0, .ref 94)], [.ref 94], (sh, I, L, R))) (M := mr_290) rfl (show mcode 290 8 = some (8, .aload_n 0, 1, 0, 0, 0, _) from rfl) (Or.inl ⟨.ref 94, rfl, rfl⟩) ?_
  refine XW.nam (x := 0) rfl (by decide) ?_
  refine XW.call (d' := d) (mc' := 0) (ms' := 0) (av := [.ref 94, .long (fNAM (0 : Int32).toNatClampNeg)]) (rest := []) (M := mr_290) (Ma := mr_282) rfl (show mcode 290 14 = some (14, .invokevirtual 391, 3, 282, 0, 0, _) from rfl) rfl (by decide) (by decide) ⟨rfl, 94, _, rfl, c94⟩ rfl rfl (show 0 ≤ 8 by decide) (tc_isK (d := d) (p := p) (t := 8) hw hs hpn (by decide) (by decide)) (by omega) (Nat.zero_le _) (Nat.zero_le _) (fun rQ1 wQ1 Q1 => ?_)
  obtain ⟨hQ1, rfl⟩ := Q1
  rcases hQ1 with ⟨rfl, gQ1⟩ | ⟨rfl, gQ1⟩
  · skip
    refine XW.fam (S' := (22, [(1, .int 0), (0, .ref 94)], [], (sh, I, L, R))) (M := mr_290) rfl (show mcode 290 17 = some (17, .ifCond .eq 5, 3, 22, 0, 0, _) from rfl) (Or.inr (Or.inl ⟨22, [], rfl, rfl⟩)) ?_
    refine XW.fam (S' := (25, [(1, .int 1), (0, .ref 94)], [], (sh, I, L, R))) (M := mr_290) rfl (show mcode 290 22 = some (22, .iinc 1 1, 3, 0, 0, 0, _) from rfl) (Or.inr (Or.inr (Or.inr (Or.inr (Or.inr (Or.inr (Or.inr (Or.inr (Or.inr ⟨1, 1, 0, rfl, rfl, by decide, rfl⟩))))))))) ?_
    refine XW.fam (S' := (2, [(1, .int 1), (0, .ref 94)], [], (sh, I, L, R))) (M := mr_290) rfl (show mcode 290 25 = some (25, .goto (-23), 3, 2, 0, 0, _) from rfl) (Or.inr (Or.inl ⟨2, [], rfl, rfl⟩)) ?_
    refine XW.fam (S' := (3, [(1, .int 1), (0, .ref 94)], [.int 1], (sh, I, L, R))) (M := mr_290) rfl (show mcode 290 2 = some (2, .iload_n 1, 1, 0, 0, 0, _) from rfl) (Or.inl ⟨.int 1, rfl, rfl⟩) ?_
    refine XW.fam (S' := (5, [(1, .int 1), (0, .ref 94)], [.int 10, .int 1], (sh, I, L, R))) (M := mr_290) rfl (show mcode 290 3 = some (3, .bipush 10, 2, 0, 0, 0, _) from rfl) (Or.inl ⟨.int 10, rfl, rfl⟩) ?_
    refine XW.fam (S' := (8, [(1, .int 1), (0, .ref 94)], [], (sh, I, L, R))) (M := mr_290) rfl (show mcode 290 5 = some (5, .if_icmp .ge 23, 3, 28, 0, 0, _) from rfl) (Or.inr (Or.inl ⟨8, [], rfl, rfl⟩)) ?_
    refine XW.fam (S' := (9, [(1, .int 1), (0, .ref 94)], [.ref 94], (sh, I, L, R))) (M := mr_290) rfl (show mcode 290 8 = some (8, .aload_n 0, 1, 0, 0, 0, _) from rfl) (Or.inl ⟨.ref 94, rfl, rfl⟩) ?_
    refine XW.nam (x := 1) rfl (by decide) ?_
    refine XW.call (d' := d) (mc' := 0) (ms' := 0) (av := [.ref 94, .long (fNAM (1 : Int32).toNatClampNeg)]) (rest := []) (M := mr_290) (Ma := mr_282) rfl (show mcode 290 14 = some (14, .invokevirtual 391, 3, 282, 0, 0, _) from rfl) rfl (by decide) (by decide) ⟨rfl, 94, _, rfl, c94⟩ rfl rfl (show 0 ≤ 8 by decide) (tc_isK (d := d) (p := p) (t := 9) hw hs hpn (by decide) (by decide)) (by omega) (Nat.zero_le _) (Nat.zero_le _) (fun rQ2 wQ2 Q2 => ?_)
    obtain ⟨hQ2, rfl⟩ := Q2
    rcases hQ2 with ⟨rfl, gQ2⟩ | ⟨rfl, gQ2⟩
    · skip
      refine XW.fam (S' := (22, [(1, .int 1), (0, .ref 94)], [], (sh, I, L, R))) (M := mr_290) rfl (show mcode 290 17 = some (17, .ifCond .eq 5, 3, 22, 0, 0, _) from rfl) (Or.inr (Or.inl ⟨22, [], rfl, rfl⟩)) ?_
      refine XW.fam (S' := (25, [(1, .int 2), (0, .ref 94)], [], (sh, I, L, R))) (M := mr_290) rfl (show mcode 290 22 = some (22, .iinc 1 1, 3, 0, 0, 0, _) from rfl) (Or.inr (Or.inr (Or.inr (Or.inr (Or.inr (Or.inr (Or.inr (Or.inr (Or.inr ⟨1, 1, 1, rfl, rfl, by decide, rfl⟩))))))))) ?_
      refine XW.fam (S' := (2, [(1, .int 2), (0, .ref 94)], [], (sh, I, L, R))) (M := mr_290) rfl (show mcode 290 25 = some (25, .goto (-23), 3, 2, 0, 0, _) from rfl) (Or.inr (Or.inl ⟨2, [], rfl, rfl⟩)) ?_
      refine XW.fam (S' := (3, [(1, .int 2), (0, .ref 94)], [.int 2], (sh, I, L, R))) (M := mr_290) rfl (show mcode 290 2 = some (2, .iload_n 1, 1, 0, 0, 0, _) from rfl) (Or.inl ⟨.int 2, rfl, rfl⟩) ?_
      refine XW.fam (S' := (5, [(1, .int 2), (0, .ref 94)], [.int 10, .int 2], (sh, I, L, R))) (M := mr_290) rfl (show mcode 290 3 = some (3, .bipush 10, 2, 0, 0, 0, _) from rfl) (Or.inl ⟨.int 10, rfl, rfl⟩) ?_
      refine XW.fam (S' := (8, [(1, .int 2), (0, .ref 94)], [], (sh, I, L, R))) (M := mr_290) rfl (show mcode 290 5 = some (5, .if_icmp .ge 23, 3, 28, 0, 0, _) from rfl) (Or.inr (Or.inl ⟨8, [], rfl, rfl⟩)) ?_
      refine XW.fam (S' := (9, [(1, .int 2), (0, .ref 94)], [.ref 94], (sh, I, L, R))) (M := mr_290) rfl (show mcode 290 8 = some (8, .aload_n 0, 1, 0, 0, 0, _) from rfl) (Or.inl ⟨.ref 94, rfl, rfl⟩) ?_
      refine XW.nam (x := 2) rfl (by decide) ?_
      refine XW.call (d' := d) (mc' := 0) (ms' := 0) (av := [.ref 94, .long (fNAM (2 : Int32).toNatClampNeg)]) (rest := []) (M := mr_290) (Ma := mr_282) rfl (show mcode 290 14 = some (14, .invokevirtual 391, 3, 282, 0, 0, _) from rfl) rfl (by decide) (by decide) ⟨rfl, 94, _, rfl, c94⟩ rfl rfl (show 0 ≤ 8 by decide) (tc_isK (d := d) (p := p) (t := 10) hw hs hpn (by decide) (by decide)) (by omega) (Nat.zero_le _) (Nat.zero_le _) (fun rQ3 wQ3 Q3 => ?_)
      obtain ⟨hQ3, rfl⟩ := Q3
      rcases hQ3 with ⟨rfl, gQ3⟩ | ⟨rfl, gQ3⟩
      · skip
        refine XW.fam (S' := (22, [(1, .int 2), (0, .ref 94)], [], (sh, I, L, R))) (M := mr_290) rfl (show mcode 290 17 = some (17, .ifCond .eq 5, 3, 22, 0, 0, _) from rfl) (Or.inr (Or.inl ⟨22, [], rfl, rfl⟩)) ?_
        refine XW.fam (S' := (25, [(1, .int 3), (0, .ref 94)], [], (sh, I, L, R))) (M := mr_290) rfl (show mcode 290 22 = some (22, .iinc 1 1, 3, 0, 0, 0, _) from rfl) (Or.inr (Or.inr (Or.inr (Or.inr (Or.inr (Or.inr (Or.inr (Or.inr (Or.inr ⟨1, 1, 2, rfl, rfl, by decide, rfl⟩))))))))) ?_
        refine XW.fam (S' := (2, [(1, .int 3), (0, .ref 94)], [], (sh, I, L, R))) (M := mr_290) rfl (show mcode 290 25 = some (25, .goto (-23), 3, 2, 0, 0, _) from rfl) (Or.inr (Or.inl ⟨2, [], rfl, rfl⟩)) ?_
        refine XW.fam (S' := (3, [(1, .int 3), (0, .ref 94)], [.int 3], (sh, I, L, R))) (M := mr_290) rfl (show mcode 290 2 = some (2, .iload_n 1, 1, 0, 0, 0, _) from rfl) (Or.inl ⟨.int 3, rfl, rfl⟩) ?_
        refine XW.fam (S' := (5, [(1, .int 3), (0, .ref 94)], [.int 10, .int 3], (sh, I, L, R))) (M := mr_290) rfl (show mcode 290 3 = some (3, .bipush 10, 2, 0, 0, 0, _) from rfl) (Or.inl ⟨.int 10, rfl, rfl⟩) ?_
        refine XW.fam (S' := (8, [(1, .int 3), (0, .ref 94)], [], (sh, I, L, R))) (M := mr_290) rfl (show mcode 290 5 = some (5, .if_icmp .ge 23, 3, 28, 0, 0, _) from rfl) (Or.inr (Or.inl ⟨8, [], rfl, rfl⟩)) ?_
        refine XW.fam (S' := (9, [(1, .int 3), (0, .ref 94)], [.ref 94], (sh, I, L, R))) (M := mr_290) rfl (show mcode 290 8 = some (8, .aload_n 0, 1, 0, 0, 0, _) from rfl) (Or.inl ⟨.ref 94, rfl, rfl⟩) ?_
        refine XW.nam (x := 3) rfl (by decide) ?_
        refine XW.call (d' := d) (mc' := 0) (ms' := 0) (av := [.ref 94, .long (fNAM (3 : Int32).toNatClampNeg)]) (rest := []) (M := mr_290) (Ma := mr_282) rfl (show mcode 290 14 = some (14, .invokevirtual 391, 3, 282, 0, 0, _) from rfl) rfl (by decide) (by decide) ⟨rfl, 94, _, rfl, c94⟩ rfl rfl (show 0 ≤ 8 by decide) (tc_isK (d := d) (p := p) (t := 11) hw hs hpn (by decide) (by decide)) (by omega) (Nat.zero_le _) (Nat.zero_le _) (fun rQ4 wQ4 Q4 => ?_)
        obtain ⟨hQ4, rfl⟩ := Q4
        rcases hQ4 with ⟨rfl, gQ4⟩ | ⟨rfl, gQ4⟩
        · skip
          refine XW.fam (S' := (22, [(1, .int 3), (0, .ref 94)], [], (sh, I, L, R))) (M := mr_290) rfl (show mcode 290 17 = some (17, .ifCond .eq 5, 3, 22, 0, 0, _) from rfl) (Or.inr (Or.inl ⟨22, [], rfl, rfl⟩)) ?_
          refine XW.fam (S' := (25, [(1, .int 4), (0, .ref 94)], [], (sh, I, L, R))) (M := mr_290) rfl (show mcode 290 22 = some (22, .iinc 1 1, 3, 0, 0, 0, _) from rfl) (Or.inr (Or.inr (Or.inr (Or.inr (Or.inr (Or.inr (Or.inr (Or.inr (Or.inr ⟨1, 1, 3, rfl, rfl, by decide, rfl⟩))))))))) ?_
          refine XW.fam (S' := (2, [(1, .int 4), (0, .ref 94)], [], (sh, I, L, R))) (M := mr_290) rfl (show mcode 290 25 = some (25, .goto (-23), 3, 2, 0, 0, _) from rfl) (Or.inr (Or.inl ⟨2, [], rfl, rfl⟩)) ?_
          refine XW.fam (S' := (3, [(1, .int 4), (0, .ref 94)], [.int 4], (sh, I, L, R))) (M := mr_290) rfl (show mcode 290 2 = some (2, .iload_n 1, 1, 0, 0, 0, _) from rfl) (Or.inl ⟨.int 4, rfl, rfl⟩) ?_
          refine XW.fam (S' := (5, [(1, .int 4), (0, .ref 94)], [.int 10, .int 4], (sh, I, L, R))) (M := mr_290) rfl (show mcode 290 3 = some (3, .bipush 10, 2, 0, 0, 0, _) from rfl) (Or.inl ⟨.int 10, rfl, rfl⟩) ?_
          refine XW.fam (S' := (8, [(1, .int 4), (0, .ref 94)], [], (sh, I, L, R))) (M := mr_290) rfl (show mcode 290 5 = some (5, .if_icmp .ge 23, 3, 28, 0, 0, _) from rfl) (Or.inr (Or.inl ⟨8, [], rfl, rfl⟩)) ?_
          refine XW.fam (S' := (9, [(1, .int 4), (0, .ref 94)], [.ref 94], (sh, I, L, R))) (M := mr_290) rfl (show mcode 290 8 = some (8, .aload_n 0, 1, 0, 0, 0, _) from rfl) (Or.inl ⟨.ref 94, rfl, rfl⟩) ?_
          refine XW.nam (x := 4) rfl (by decide) ?_
          refine XW.call (d' := d) (mc' := 0) (ms' := 0) (av := [.ref 94, .long (fNAM (4 : Int32).toNatClampNeg)]) (rest := []) (M := mr_290) (Ma := mr_282) rfl (show mcode 290 14 = some (14, .invokevirtual 391, 3, 282, 0, 0, _) from rfl) rfl (by decide) (by decide) ⟨rfl, 94, _, rfl, c94⟩ rfl rfl (show 0 ≤ 8 by decide) (tc_isK (d := d) (p := p) (t := 12) hw hs hpn (by decide) (by decide)) (by omega) (Nat.zero_le _) (Nat.zero_le _) (fun rQ5 wQ5 Q5 => ?_)
          obtain ⟨hQ5, rfl⟩ := Q5
          rcases hQ5 with ⟨rfl, gQ5⟩ | ⟨rfl, gQ5⟩
          · skip
            refine XW.fam (S' := (22, [(1, .int 4), (0, .ref 94)], [], (sh, I, L, R))) (M := mr_290) rfl (show mcode 290 17 = some (17, .ifCond .eq 5, 3, 22, 0, 0, _) from rfl) (Or.inr (Or.inl ⟨22, [], rfl, rfl⟩)) ?_
            refine XW.fam (S' := (25, [(1, .int 5), (0, .ref 94)], [], (sh, I, L, R))) (M := mr_290) rfl (show mcode 290 22 = some (22, .iinc 1 1, 3, 0, 0, 0, _) from rfl) (Or.inr (Or.inr (Or.inr (Or.inr (Or.inr (Or.inr (Or.inr (Or.inr (Or.inr ⟨1, 1, 4, rfl, rfl, by decide, rfl⟩))))))))) ?_
            refine XW.fam (S' := (2, [(1, .int 5), (0, .ref 94)], [], (sh, I, L, R))) (M := mr_290) rfl (show mcode 290 25 = some (25, .goto (-23), 3, 2, 0, 0, _) from rfl) (Or.inr (Or.inl ⟨2, [], rfl, rfl⟩)) ?_
            refine XW.fam (S' := (3, [(1, .int 5), (0, .ref 94)], [.int 5], (sh, I, L, R))) (M := mr_290) rfl (show mcode 290 2 = some (2, .iload_n 1, 1, 0, 0, 0, _) from rfl) (Or.inl ⟨.int 5, rfl, rfl⟩) ?_
            refine XW.fam (S' := (5, [(1, .int 5), (0, .ref 94)], [.int 10, .int 5], (sh, I, L, R))) (M := mr_290) rfl (show mcode 290 3 = some (3, .bipush 10, 2, 0, 0, 0, _) from rfl) (Or.inl ⟨.int 10, rfl, rfl⟩) ?_
            refine XW.fam (S' := (8, [(1, .int 5), (0, .ref 94)], [], (sh, I, L, R))) (M := mr_290) rfl (show mcode 290 5 = some (5, .if_icmp .ge 23, 3, 28, 0, 0, _) from rfl) (Or.inr (Or.inl ⟨8, [], rfl, rfl⟩)) ?_
            refine XW.fam (S' := (9, [(1, .int 5), (0, .ref 94)], [.ref 94], (sh, I, L, R))) (M := mr_290) rfl (show mcode 290 8 = some (8, .aload_n 0, 1, 0, 0, 0, _) from rfl) (Or.inl ⟨.ref 94, rfl, rfl⟩) ?_
            refine XW.nam (x := 5) rfl (by decide) ?_
            refine XW.call (d' := d) (mc' := 0) (ms' := 0) (av := [.ref 94, .long (fNAM (5 : Int32).toNatClampNeg)]) (rest := []) (M := mr_290) (Ma := mr_282) rfl (show mcode 290 14 = some (14, .invokevirtual 391, 3, 282, 0, 0, _) from rfl) rfl (by decide) (by decide) ⟨rfl, 94, _, rfl, c94⟩ rfl rfl (show 0 ≤ 8 by decide) (tc_isK (d := d) (p := p) (t := 13) hw hs hpn (by decide) (by decide)) (by omega) (Nat.zero_le _) (Nat.zero_le _) (fun rQ6 wQ6 Q6 => ?_)
            obtain ⟨hQ6, rfl⟩ := Q6
            rcases hQ6 with ⟨rfl, gQ6⟩ | ⟨rfl, gQ6⟩
            · skip
              refine XW.fam (S' := (22, [(1, .int 5), (0, .ref 94)], [], (sh, I, L, R))) (M := mr_290) rfl (show mcode 290 17 = some (17, .ifCond .eq 5, 3, 22, 0, 0, _) from rfl) (Or.inr (Or.inl ⟨22, [], rfl, rfl⟩)) ?_
              refine XW.fam (S' := (25, [(1, .int 6), (0, .ref 94)], [], (sh, I, L, R))) (M := mr_290) rfl (show mcode 290 22 = some (22, .iinc 1 1, 3, 0, 0, 0, _) from rfl) (Or.inr (Or.inr (Or.inr (Or.inr (Or.inr (Or.inr (Or.inr (Or.inr (Or.inr ⟨1, 1, 5, rfl, rfl, by decide, rfl⟩))))))))) ?_
              refine XW.fam (S' := (2, [(1, .int 6), (0, .ref 94)], [], (sh, I, L, R))) (M := mr_290) rfl (show mcode 290 25 = some (25, .goto (-23), 3, 2, 0, 0, _) from rfl) (Or.inr (Or.inl ⟨2, [], rfl, rfl⟩)) ?_
              refine XW.fam (S' := (3, [(1, .int 6), (0, .ref 94)], [.int 6], (sh, I, L, R))) (M := mr_290) rfl (show mcode 290 2 = some (2, .iload_n 1, 1, 0, 0, 0, _) from rfl) (Or.inl ⟨.int 6, rfl, rfl⟩) ?_
              refine XW.fam (S' := (5, [(1, .int 6), (0, .ref 94)], [.int 10, .int 6], (sh, I, L, R))) (M := mr_290) rfl (show mcode 290 3 = some (3, .bipush 10, 2, 0, 0, 0, _) from rfl) (Or.inl ⟨.int 10, rfl, rfl⟩) ?_
              refine XW.fam (S' := (8, [(1, .int 6), (0, .ref 94)], [], (sh, I, L, R))) (M := mr_290) rfl (show mcode 290 5 = some (5, .if_icmp .ge 23, 3, 28, 0, 0, _) from rfl) (Or.inr (Or.inl ⟨8, [], rfl, rfl⟩)) ?_
              refine XW.fam (S' := (9, [(1, .int 6), (0, .ref 94)], [.ref 94], (sh, I, L, R))) (M := mr_290) rfl (show mcode 290 8 = some (8, .aload_n 0, 1, 0, 0, 0, _) from rfl) (Or.inl ⟨.ref 94, rfl, rfl⟩) ?_
              refine XW.nam (x := 6) rfl (by decide) ?_
              refine XW.call (d' := d) (mc' := 0) (ms' := 0) (av := [.ref 94, .long (fNAM (6 : Int32).toNatClampNeg)]) (rest := []) (M := mr_290) (Ma := mr_282) rfl (show mcode 290 14 = some (14, .invokevirtual 391, 3, 282, 0, 0, _) from rfl) rfl (by decide) (by decide) ⟨rfl, 94, _, rfl, c94⟩ rfl rfl (show 0 ≤ 8 by decide) (tc_isK (d := d) (p := p) (t := 14) hw hs hpn (by decide) (by decide)) (by omega) (Nat.zero_le _) (Nat.zero_le _) (fun rQ7 wQ7 Q7 => ?_)
              obtain ⟨hQ7, rfl⟩ := Q7
              rcases hQ7 with ⟨rfl, gQ7⟩ | ⟨rfl, gQ7⟩
              · skip
                refine XW.fam (S' := (22, [(1, .int 6), (0, .ref 94)], [], (sh, I, L, R))) (M := mr_290) rfl (show mcode 290 17 = some (17, .ifCond .eq 5, 3, 22, 0, 0, _) from rfl) (Or.inr (Or.inl ⟨22, [], rfl, rfl⟩)) ?_
                refine XW.fam (S' := (25, [(1, .int 7), (0, .ref 94)], [], (sh, I, L, R))) (M := mr_290) rfl (show mcode 290 22 = some (22, .iinc 1 1, 3, 0, 0, 0, _) from rfl) (Or.inr (Or.inr (Or.inr (Or.inr (Or.inr (Or.inr (Or.inr (Or.inr (Or.inr ⟨1, 1, 6, rfl, rfl, by decide, rfl⟩))))))))) ?_
                refine XW.fam (S' := (2, [(1, .int 7), (0, .ref 94)], [], (sh, I, L, R))) (M := mr_290) rfl (show mcode 290 25 = some (25, .goto (-23), 3, 2, 0, 0, _) from rfl) (Or.inr (Or.inl ⟨2, [], rfl, rfl⟩)) ?_
                refine XW.fam (S' := (3, [(1, .int 7), (0, .ref 94)], [.int 7], (sh, I, L, R))) (M := mr_290) rfl (show mcode 290 2 = some (2, .iload_n 1, 1, 0, 0, 0, _) from rfl) (Or.inl ⟨.int 7, rfl, rfl⟩) ?_
                refine XW.fam (S' := (5, [(1, .int 7), (0, .ref 94)], [.int 10, .int 7], (sh, I, L, R))) (M := mr_290) rfl (show mcode 290 3 = some (3, .bipush 10, 2, 0, 0, 0, _) from rfl) (Or.inl ⟨.int 10, rfl, rfl⟩) ?_
                refine XW.fam (S' := (8, [(1, .int 7), (0, .ref 94)], [], (sh, I, L, R))) (M := mr_290) rfl (show mcode 290 5 = some (5, .if_icmp .ge 23, 3, 28, 0, 0, _) from rfl) (Or.inr (Or.inl ⟨8, [], rfl, rfl⟩)) ?_
                refine XW.fam (S' := (9, [(1, .int 7), (0, .ref 94)], [.ref 94], (sh, I, L, R))) (M := mr_290) rfl (show mcode 290 8 = some (8, .aload_n 0, 1, 0, 0, 0, _) from rfl) (Or.inl ⟨.ref 94, rfl, rfl⟩) ?_
                refine XW.nam (x := 7) rfl (by decide) ?_
                refine XW.call (d' := d) (mc' := 0) (ms' := 0) (av := [.ref 94, .long (fNAM (7 : Int32).toNatClampNeg)]) (rest := []) (M := mr_290) (Ma := mr_282) rfl (show mcode 290 14 = some (14, .invokevirtual 391, 3, 282, 0, 0, _) from rfl) rfl (by decide) (by decide) ⟨rfl, 94, _, rfl, c94⟩ rfl rfl (show 0 ≤ 8 by decide) (tc_isK (d := d) (p := p) (t := 15) hw hs hpn (by decide) (by decide)) (by omega) (Nat.zero_le _) (Nat.zero_le _) (fun rQ8 wQ8 Q8 => ?_)
                obtain ⟨hQ8, rfl⟩ := Q8
                rcases hQ8 with ⟨rfl, gQ8⟩ | ⟨rfl, gQ8⟩
                · skip
                  refine XW.fam (S' := (22, [(1, .int 7), (0, .ref 94)], [], (sh, I, L, R))) (M := mr_290) rfl (show mcode 290 17 = some (17, .ifCond .eq 5, 3, 22, 0, 0, _) from rfl) (Or.inr (Or.inl ⟨22, [], rfl, rfl⟩)) ?_
                  refine XW.fam (S' := (25, [(1, .int 8), (0, .ref 94)], [], (sh, I, L, R))) (M := mr_290) rfl (show mcode 290 22 = some (22, .iinc 1 1, 3, 0, 0, 0, _) from rfl) (Or.inr (Or.inr (Or.inr (Or.inr (Or.inr (Or.inr (Or.inr (Or.inr (Or.inr ⟨1, 1, 7, rfl, rfl, by decide, rfl⟩))))))))) ?_
                  refine XW.fam (S' := (2, [(1, .int 8), (0, .ref 94)], [], (sh, I, L, R))) (M := mr_290) rfl (show mcode 290 25 = some (25, .goto (-23), 3, 2, 0, 0, _) from rfl) (Or.inr (Or.inl ⟨2, [], rfl, rfl⟩)) ?_
                  refine XW.fam (S' := (3, [(1, .int 8), (0, .ref 94)], [.int 8], (sh, I, L, R))) (M := mr_290) rfl (show mcode 290 2 = some (2, .iload_n 1, 1, 0, 0, 0, _) from rfl) (Or.inl ⟨.int 8, rfl, rfl⟩) ?_
                  refine XW.fam (S' := (5, [(1, .int 8), (0, .ref 94)], [.int 10, .int 8], (sh, I, L, R))) (M := mr_290) rfl (show mcode 290 3 = some (3, .bipush 10, 2, 0, 0, 0, _) from rfl) (Or.inl ⟨.int 10, rfl, rfl⟩) ?_
                  refine XW.fam (S' := (8, [(1, .int 8), (0, .ref 94)], [], (sh, I, L, R))) (M := mr_290) rfl (show mcode 290 5 = some (5, .if_icmp .ge 23, 3, 28, 0, 0, _) from rfl) (Or.inr (Or.inl ⟨8, [], rfl, rfl⟩)) ?_
                  refine XW.fam (S' := (9, [(1, .int 8), (0, .ref 94)], [.ref 94], (sh, I, L, R))) (M := mr_290) rfl (show mcode 290 8 = some (8, .aload_n 0, 1, 0, 0, 0, _) from rfl) (Or.inl ⟨.ref 94, rfl, rfl⟩) ?_
                  refine XW.nam (x := 8) rfl (by decide) ?_
                  refine XW.call (d' := d) (mc' := 0) (ms' := 0) (av := [.ref 94, .long (fNAM (8 : Int32).toNatClampNeg)]) (rest := []) (M := mr_290) (Ma := mr_282) rfl (show mcode 290 14 = some (14, .invokevirtual 391, 3, 282, 0, 0, _) from rfl) rfl (by decide) (by decide) ⟨rfl, 94, _, rfl, c94⟩ rfl rfl (show 0 ≤ 8 by decide) (tc_isK (d := d) (p := p) (t := 16) hw hs hpn (by decide) (by decide)) (by omega) (Nat.zero_le _) (Nat.zero_le _) (fun rQ9 wQ9 Q9 => ?_)
                  obtain ⟨hQ9, rfl⟩ := Q9
                  rcases hQ9 with ⟨rfl, gQ9⟩ | ⟨rfl, gQ9⟩
                  · skip
                    refine XW.fam (S' := (22, [(1, .int 8), (0, .ref 94)], [], (sh, I, L, R))) (M := mr_290) rfl (show mcode 290 17 = some (17, .ifCond .eq 5, 3, 22, 0, 0, _) from rfl) (Or.inr (Or.inl ⟨22, [], rfl, rfl⟩)) ?_
                    refine XW.fam (S' := (25, [(1, .int 9), (0, .ref 94)], [], (sh, I, L, R))) (M := mr_290) rfl (show mcode 290 22 = some (22, .iinc 1 1, 3, 0, 0, 0, _) from rfl) (Or.inr (Or.inr (Or.inr (Or.inr (Or.inr (Or.inr (Or.inr (Or.inr (Or.inr ⟨1, 1, 8, rfl, rfl, by decide, rfl⟩))))))))) ?_
                    refine XW.fam (S' := (2, [(1, .int 9), (0, .ref 94)], [], (sh, I, L, R))) (M := mr_290) rfl (show mcode 290 25 = some (25, .goto (-23), 3, 2, 0, 0, _) from rfl) (Or.inr (Or.inl ⟨2, [], rfl, rfl⟩)) ?_
                    refine XW.fam (S' := (3, [(1, .int 9), (0, .ref 94)], [.int 9], (sh, I, L, R))) (M := mr_290) rfl (show mcode 290 2 = some (2, .iload_n 1, 1, 0, 0, 0, _) from rfl) (Or.inl ⟨.int 9, rfl, rfl⟩) ?_
                    refine XW.fam (S' := (5, [(1, .int 9), (0, .ref 94)], [.int 10, .int 9], (sh, I, L, R))) (M := mr_290) rfl (show mcode 290 3 = some (3, .bipush 10, 2, 0, 0, 0, _) from rfl) (Or.inl ⟨.int 10, rfl, rfl⟩) ?_
                    refine XW.fam (S' := (8, [(1, .int 9), (0, .ref 94)], [], (sh, I, L, R))) (M := mr_290) rfl (show mcode 290 5 = some (5, .if_icmp .ge 23, 3, 28, 0, 0, _) from rfl) (Or.inr (Or.inl ⟨8, [], rfl, rfl⟩)) ?_
                    refine XW.fam (S' := (9, [(1, .int 9), (0, .ref 94)], [.ref 94], (sh, I, L, R))) (M := mr_290) rfl (show mcode 290 8 = some (8, .aload_n 0, 1, 0, 0, 0, _) from rfl) (Or.inl ⟨.ref 94, rfl, rfl⟩) ?_
                    refine XW.nam (x := 9) rfl (by decide) ?_
                    refine XW.call (d' := d) (mc' := 0) (ms' := 0) (av := [.ref 94, .long (fNAM (9 : Int32).toNatClampNeg)]) (rest := []) (M := mr_290) (Ma := mr_282) rfl (show mcode 290 14 = some (14, .invokevirtual 391, 3, 282, 0, 0, _) from rfl) rfl (by decide) (by decide) ⟨rfl, 94, _, rfl, c94⟩ rfl rfl (show 0 ≤ 8 by decide) (tc_isK (d := d) (p := p) (t := 17) hw hs hpn (by decide) (by decide)) (by omega) (Nat.zero_le _) (Nat.zero_le _) (fun rQ10 wQ10 Q10 => ?_)
                    obtain ⟨hQ10, rfl⟩ := Q10
                    rcases hQ10 with ⟨rfl, gQ10⟩ | ⟨rfl, gQ10⟩
                    · skip
                      refine XW.fam (S' := (22, [(1, .int 9), (0, .ref 94)], [], (sh, I, L, R))) (M := mr_290) rfl (show mcode 290 17 = some (17, .ifCond .eq 5, 3, 22, 0, 0, _) from rfl) (Or.inr (Or.inl ⟨22, [], rfl, rfl⟩)) ?_
                      refine XW.fam (S' := (25, [(1, .int 10), (0, .ref 94)], [], (sh, I, L, R))) (M := mr_290) rfl (show mcode 290 22 = some (22, .iinc 1 1, 3, 0, 0, 0, _) from rfl) (Or.inr (Or.inr (Or.inr (Or.inr (Or.inr (Or.inr (Or.inr (Or.inr (Or.inr ⟨1, 1, 9, rfl, rfl, by decide, rfl⟩))))))))) ?_
                      refine XW.fam (S' := (2, [(1, .int 10), (0, .ref 94)], [], (sh, I, L, R))) (M := mr_290) rfl (show mcode 290 25 = some (25, .goto (-23), 3, 2, 0, 0, _) from rfl) (Or.inr (Or.inl ⟨2, [], rfl, rfl⟩)) ?_
                      refine XW.fam (S' := (3, [(1, .int 10), (0, .ref 94)], [.int 10], (sh, I, L, R))) (M := mr_290) rfl (show mcode 290 2 = some (2, .iload_n 1, 1, 0, 0, 0, _) from rfl) (Or.inl ⟨.int 10, rfl, rfl⟩) ?_
                      refine XW.fam (S' := (5, [(1, .int 10), (0, .ref 94)], [.int 10, .int 10], (sh, I, L, R))) (M := mr_290) rfl (show mcode 290 3 = some (3, .bipush 10, 2, 0, 0, 0, _) from rfl) (Or.inl ⟨.int 10, rfl, rfl⟩) ?_
                      refine XW.fam (S' := (28, [(1, .int 10), (0, .ref 94)], [], (sh, I, L, R))) (M := mr_290) rfl (show mcode 290 5 = some (5, .if_icmp .ge 23, 3, 28, 0, 0, _) from rfl) (Or.inr (Or.inl ⟨28, [], rfl, rfl⟩)) ?_
                      refine XW.fam (S' := (29, [(1, .int 10), (0, .ref 94)], [.int (-1)], (sh, I, L, R))) (M := mr_290) rfl (show mcode 290 28 = some (28, .iconst (-1), 1, 0, 0, 0, _) from rfl) (Or.inl ⟨.int (-1), rfl, rfl⟩) ?_
                      refine XW.ret (r := some (.int (-1))) ⟨⟨.int, rfl, rfl⟩, by decide +kernel⟩ ?_
                      exact ⟨⟨_, rfl, Or.inl ⟨rfl, fun z => by omega⟩⟩, rfl⟩
                    · skip
                      refine XW.fam (S' := (20, [(1, .int 9), (0, .ref 94)], [], (sh, I, L, R))) (M := mr_290) rfl (show mcode 290 17 = some (17, .ifCond .eq 5, 3, 22, 0, 0, _) from rfl) (Or.inr (Or.inl ⟨20, [], rfl, rfl⟩)) ?_
                      refine XW.fam (S' := (21, [(1, .int 9), (0, .ref 94)], [.int 9], (sh, I, L, R))) (M := mr_290) rfl (show mcode 290 20 = some (20, .iload_n 1, 1, 0, 0, 0, _) from rfl) (Or.inl ⟨.int 9, rfl, rfl⟩) ?_
                      refine XW.ret (r := some (.int 9)) ⟨⟨.int, rfl, rfl⟩, by decide +kernel⟩ ?_
                      exact ⟨⟨_, rfl, Or.inr ⟨by show (264 : Int) ≤ _; omega, by omega, by omega⟩⟩, rfl⟩
                  · skip
                    refine XW.fam (S' := (20, [(1, .int 8), (0, .ref 94)], [], (sh, I, L, R))) (M := mr_290) rfl (show mcode 290 17 = some (17, .ifCond .eq 5, 3, 22, 0, 0, _) from rfl) (Or.inr (Or.inl ⟨20, [], rfl, rfl⟩)) ?_
                    refine XW.fam (S' := (21, [(1, .int 8), (0, .ref 94)], [.int 8], (sh, I, L, R))) (M := mr_290) rfl (show mcode 290 20 = some (20, .iload_n 1, 1, 0, 0, 0, _) from rfl) (Or.inl ⟨.int 8, rfl, rfl⟩) ?_
                    refine XW.ret (r := some (.int 8)) ⟨⟨.int, rfl, rfl⟩, by decide +kernel⟩ ?_
                    exact ⟨⟨_, rfl, Or.inr ⟨by show (264 : Int) ≤ _; omega, by omega, by omega⟩⟩, rfl⟩
                · skip
                  refine XW.fam (S' := (20, [(1, .int 7), (0, .ref 94)], [], (sh, I, L, R))) (M := mr_290) rfl (show mcode 290 17 = some (17, .ifCond .eq 5, 3, 22, 0, 0, _) from rfl) (Or.inr (Or.inl ⟨20, [], rfl, rfl⟩)) ?_
                  refine XW.fam (S' := (21, [(1, .int 7), (0, .ref 94)], [.int 7], (sh, I, L, R))) (M := mr_290) rfl (show mcode 290 20 = some (20, .iload_n 1, 1, 0, 0, 0, _) from rfl) (Or.inl ⟨.int 7, rfl, rfl⟩) ?_
                  refine XW.ret (r := some (.int 7)) ⟨⟨.int, rfl, rfl⟩, by decide +kernel⟩ ?_
                  exact ⟨⟨_, rfl, Or.inr ⟨by show (264 : Int) ≤ _; omega, by omega, by omega⟩⟩, rfl⟩
              · skip
                refine XW.fam (S' := (20, [(1, .int 6), (0, .ref 94)], [], (sh, I, L, R))) (M := mr_290) rfl (show mcode 290 17 = some (17, .ifCond .eq 5, 3, 22, 0, 0, _) from rfl) (Or.inr (Or.inl ⟨20, [], rfl, rfl⟩)) ?_
                refine XW.fam (S' := (21, [(1, .int 6), (0, .ref 94)], [.int 6], (sh, I, L, R))) (M := mr_290) rfl (show mcode 290 20 = some (20, .iload_n 1, 1, 0, 0, 0, _) from rfl) (Or.inl ⟨.int 6, rfl, rfl⟩) ?_
                refine XW.ret (r := some (.int 6)) ⟨⟨.int, rfl, rfl⟩, by decide +kernel⟩ ?_
                exact ⟨⟨_, rfl, Or.inr ⟨by show (264 : Int) ≤ _; omega, by omega, by omega⟩⟩, rfl⟩
            · skip
              refine XW.fam (S' := (20, [(1, .int 5), (0, .ref 94)], [], (sh, I, L, R))) (M := mr_290) rfl (show mcode 290 17 = some (17, .ifCond .eq 5, 3, 22, 0, 0, _) from rfl) (Or.inr (Or.inl ⟨20, [], rfl, rfl⟩)) ?_
              refine XW.fam (S' := (21, [(1, .int 5), (0, .ref 94)], [.int 5], (sh, I, L, R))) (M := mr_290) rfl (show mcode 290 20 = some (20, .iload_n 1, 1, 0, 0, 0, _) from rfl) (Or.inl ⟨.int 5, rfl, rfl⟩) ?_
              refine XW.ret (r := some (.int 5)) ⟨⟨.int, rfl, rfl⟩, by decide +kernel⟩ ?_
              exact ⟨⟨_, rfl, Or.inr ⟨by show (264 : Int) ≤ _; omega, by omega, by omega⟩⟩, rfl⟩
          · skip
            refine XW.fam (S' := (20, [(1, .int 4), (0, .ref 94)], [], (sh, I, L, R))) (M := mr_290) rfl (show mcode 290 17 = some (17, .ifCond .eq 5, 3, 22, 0, 0, _) from rfl) (Or.inr (Or.inl ⟨20, [], rfl, rfl⟩)) ?_
            refine XW.fam (S' := (21, [(1, .int 4), (0, .ref 94)], [.int 4], (sh, I, L, R))) (M := mr_290) rfl (show mcode 290 20 = some (20, .iload_n 1, 1, 0, 0, 0, _) from rfl) (Or.inl ⟨.int 4, rfl, rfl⟩) ?_
            refine XW.ret (r := some (.int 4)) ⟨⟨.int, rfl, rfl⟩, by decide +kernel⟩ ?_
            exact ⟨⟨_, rfl, Or.inr ⟨by show (264 : Int) ≤ _; omega, by omega, by omega⟩⟩, rfl⟩
        · skip
          refine XW.fam (S' := (20, [(1, .int 3), (0, .ref 94)], [], (sh, I, L, R))) (M := mr_290) rfl (show mcode 290 17 = some (17, .ifCond .eq 5, 3, 22, 0, 0, _) from rfl) (Or.inr (Or.inl ⟨20, [], rfl, rfl⟩)) ?_
          refine XW.fam (S' := (21, [(1, .int 3), (0, .ref 94)], [.int 3], (sh, I, L, R))) (M := mr_290) rfl (show mcode 290 20 = some (20, .iload_n 1, 1, 0, 0, 0, _) from rfl) (Or.inl ⟨.int 3, rfl, rfl⟩) ?_
          refine XW.ret (r := some (.int 3)) ⟨⟨.int, rfl, rfl⟩, by decide +kernel⟩ ?_
          exact ⟨⟨_, rfl, Or.inr ⟨by show (264 : Int) ≤ _; omega, by omega, by omega⟩⟩, rfl⟩
      · skip
        refine XW.fam (S' := (20, [(1, .int 2), (0, .ref 94)], [], (sh, I, L, R))) (M := mr_290) rfl (show mcode 290 17 = some (17, .ifCond .eq 5, 3, 22, 0, 0, _) from rfl) (Or.inr (Or.inl ⟨20, [], rfl, rfl⟩)) ?_
        refine XW.fam (S' := (21, [(1, .int 2), (0, .ref 94)], [.int 2], (sh, I, L, R))) (M := mr_290) rfl (show mcode 290 20 = some (20, .iload_n 1, 1, 0, 0, 0, _) from rfl) (Or.inl ⟨.int 2, rfl, rfl⟩) ?_
        refine XW.ret (r := some (.int 2)) ⟨⟨.int, rfl, rfl⟩, by decide +kernel⟩ ?_
        exact ⟨⟨_, rfl, Or.inr ⟨by show (264 : Int) ≤ _; omega, by omega, by omega⟩⟩, rfl⟩
    · skip
      refine XW.fam (S' := (20, [(1, .int 1), (0, .ref 94)], [], (sh, I, L, R))) (M := mr_290) rfl (show mcode 290 17 = some (17, .ifCond .eq 5, 3, 22, 0, 0, _) from rfl) (Or.inr (Or.inl ⟨20, [], rfl, rfl⟩)) ?_
      refine XW.fam (S' := (21, [(1, .int 1), (0, .ref 94)], [.int 1], (sh, I, L, R))) (M := mr_290) rfl (show mcode 290 20 = some (20, .iload_n 1, 1, 0, 0, 0, _) from rfl) (Or.inl ⟨.int 1, rfl, rfl⟩) ?_
      refine XW.ret (r := some (.int 1)) ⟨⟨.int, rfl, rfl⟩, by decide +kernel⟩ ?_
      exact ⟨⟨_, rfl, Or.inr ⟨by show (264 : Int) ≤ _; omega, by omega, by omega⟩⟩, rfl⟩
  · skip
    refine XW.fam (S' := (20, [(1, .int 0), (0, .ref 94)], [], (sh, I, L, R))) (M := mr_290) rfl (show mcode 290 17 = some (17, .ifCond .eq 5, 3, 22, 0, 0, _) from rfl) (Or.inr (Or.inl ⟨20, [], rfl, rfl⟩)) ?_
    refine XW.fam (S' := (21, [(1, .int 0), (0, .ref 94)], [.int 0], (sh, I, L, R))) (M := mr_290) rfl (show mcode 290 20 = some (20, .iload_n 1, 1, 0, 0, 0, _) from rfl) (Or.inl ⟨.int 0, rfl, rfl⟩) ?_
    refine XW.ret (r := some (.int 0)) ⟨⟨.int, rfl, rfl⟩, by decide +kernel⟩ ?_
    exact ⟨⟨_, rfl, Or.inr ⟨by show (264 : Int) ≤ _; omega, by omega, by omega⟩⟩, rfl⟩
