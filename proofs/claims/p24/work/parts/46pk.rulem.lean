/-! ===== rule of the model (wip/genmrule.py) ===== -/
/-- what rule does: 0 not in its days, 1 no room, 2 wrong, 3 taken -/
def ruC (td x rl fl : Int) : Nat := if td ≤ x ∧ x ≤ 700 then (if rl = 20 then 1 else if fl = -1 then 3 else 2) else 0
def ruY (c : Nat) (rl fl : Int) : Int := if c = 0 then -1 else if c = 1 then -3 else if c = 2 then -100 - fl else rl
def ruL (c : Nat) (ln : Int) : Int := if c < 2 then ln else 0
def ruR (c : Nat) (rl : Int) : Int := if c = 3 then rl + 1 else rl
def ruW (c : Nat) (rl v : Int) (f : Nat → Int) (k : Nat) : Int := if c = 3 ∧ (k : Int) = rl then v else f k
theorem wOK_52 {sh : List mE} {I : Nat → Nat → Int32} {L : Nat → Nat → Int64} {R : Nat → Nat → Option Nat} {x : Int32} (hw : wOK (mkT vV []) (wE sh R) (sh, I, L, R)) (hfl : ¬ (I 94 201).toInt = 1) (hx : 0 ≤ x.toInt ∧ x.toInt ≤ 19) : wOK (mkT vV []) (wE sh R) (sh, up2 I 94 52 x, L, R) := by
  have he := hw.2.2.2.2.2.2
  exact wOK_g hw (rgp hw.2.2.1 (by show (0 : Int) ≤ _; omega) (by show _ ≤ (19 : Int); omega)) (e1_same (up2_ne (by decide)) (fun k => up2_ne (fun e => by cases e.1)) he.1) (e2_off (ro := nv I 94 35) (Nat.le_refl _) (up2_ne (by decide)) (fun k _ => up2_ne (fun e => by cases e.1)) (fun k _ => ⟨up2_ne (fun e => by cases e.1), up2_ne (fun e => by cases e.1), up2_ne (fun e => by cases e.1)⟩) (fun k _ => ⟨up2_ne (fun e => by cases e.1), up2_ne (fun e => by cases e.1)⟩) (by unfold zv; rw [up2_ne (by decide)]; exact hfl) he.2.1) (e3_oth (by decide) (by decide) (by decide) he.2.2)
theorem wOK_125 {sh : List mE} {I : Nat → Nat → Int32} {L : Nat → Nat → Int64} {R : Nat → Nat → Option Nat} {k : Nat} (hw : wOK (mkT vV []) (wE sh R) (sh, I, L, R)) (hfl : ¬ (I 94 201).toInt = 1) (hk : k = nv I 94 35) : wOK (mkT vV []) (wE sh R) (sh, up2 I 125 k 0, L, R) := by
  have he := hw.2.2.2.2.2.2
  exact wOK_g hw (rgp hw.2.2.1 (by show (0 : Int) ≤ 0; decide) (by show (0 : Int) ≤ (240 : Int); decide)) (e1_same (up2_ne (fun e => by cases e.1)) (fun k => up2_ne (fun e => by cases e.1)) he.1) (e2_off (ro := nv I 94 35) (Nat.le_refl _) (up2_ne (fun e => by cases e.1)) (fun k2 z => up2_ne (fun e => by have e2 := e.2; omega)) (fun k _ => ⟨up2_ne (fun e => by cases e.1), up2_ne (fun e => by cases e.1), up2_ne (fun e => by cases e.1)⟩) (fun k _ => ⟨up2_ne (fun e => by cases e.1), up2_ne (fun e => by cases e.1)⟩) (by unfold zv; rw [up2_ne (fun e => by cases e.1)]; exact hfl) he.2.1) (e3_oth (by decide) (by decide) (fun z => by cases z.1) he.2.2)
theorem wOK_new {sh : List mE} {I : Nat → Nat → Int32} {L : Nat → Nat → Int64} {R : Nat → Nat → Option Nat} (hw : wOK (mkT vV []) (wE sh R) (sh, I, L, R)) (hm : nv I 125 (nv I 94 52) = 0) : wOK (mkT vV []) (wE sh R) (sh, up2 (up2 (up2 (up2 (up2 I 94 200 0) 94 201 1) 94 202 0) 94 203 0) 94 53 0, L, R) := by
  have he := hw.2.2.2.2.2.2
  obtain ⟨I2, eI2⟩ : ∃ X, X = up2 (up2 (up2 (up2 (up2 I 94 200 0) 94 201 1) 94 202 0) 94 203 0) 94 53 0 := ⟨_, rfl⟩
  rw [← eI2]
  have ne : ∀ k, ¬ k = 53 → ¬ k = 200 → ¬ k = 201 → ¬ k = 202 → ¬ k = 203 → I2 94 k = I 94 k := fun k a1 a2 a3 a4 a5 => by rw [eI2, up2_ne (fun e => a1 e.2), up2_ne (fun e => a5 e.2), up2_ne (fun e => a4 e.2), up2_ne (fun e => a3 e.2), up2_ne (fun e => a2 e.2)]
  have rr : ∀ q, ¬ q = 94 → I2 q = I q := fun q a => funext fun k => by rw [eI2, up2_ne (fun e => a e.1), up2_ne (fun e => a e.1), up2_ne (fun e => a e.1), up2_ne (fun e => a e.1), up2_ne (fun e => a e.1)]
  have v53 : I2 94 53 = 0 := by rw [eI2, up2_eq]
  have v203 : I2 94 203 = 0 := by rw [eI2, up2_ne (by decide), up2_eq]
  have v202 : I2 94 202 = 0 := by rw [eI2, up2_ne (by decide), up2_ne (by decide), up2_eq]
  have v200 : I2 94 200 = 0 := by rw [eI2, up2_ne (by decide), up2_ne (by decide), up2_ne (by decide), up2_ne (by decide), up2_eq]
  have z0 : ∀ k, I2 94 k = 0 → nv I2 94 k = 0 := fun k e => by unfold nv; rw [e]; decide
  have hr : ∀ q k, (rg (mkT vV []) q k).1 ≤ (I2 q k).toInt ∧ (I2 q k).toInt ≤ (rg (mkT vV []) q k).2 := by
    rw [eI2]
    exact rgp (rgp (rgp (rgp (rgp hw.2.2.1 (by show (-2147483648 : Int) ≤ 0; decide) (by show (0 : Int) ≤ 2147483647; decide)) (by show (-2147483648 : Int) ≤ 1; decide) (by show (1 : Int) ≤ 2147483647; decide)) (by show (-2147483648 : Int) ≤ 0; decide) (by show (0 : Int) ≤ 2147483647; decide)) (by show (-2147483648 : Int) ≤ 0; decide) (by show (0 : Int) ≤ 2147483647; decide)) (by show (0 : Int) ≤ 0; decide) (by show (0 : Int) ≤ 241; decide)
  have hm2 : nv I2 125 (nv I2 94 52) = 0 := by
    have e52 : nv I2 94 52 = nv I 94 52 := by unfold nv; rw [ne 52 (by decide) (by decide) (by decide) (by decide) (by decide)]
    rw [e52]
    unfold nv at hm ⊢
    rw [rr 125 (by decide)]
    exact hm
  exact wOK_g hw hr (e1_same (ne 60 (by decide) (by decide) (by decide) (by decide) (by decide)) (fun k => by rw [rr 135 (by decide)]) he.1) (e2_new rr (ne 35 (by decide) (by decide) (by decide) (by decide) (by decide)) (z0 53 v53) (z0 202 v202) (z0 203 v203) (congrArg Int32.toInt v200) hm2 he.2.1) (e3_far (by unfold nv; rw [ne 35 (by decide) (by decide) (by decide) (by decide) (by decide)]; exact Nat.le_refl _) (fun k hk => ne k (by omega) (by omega) (by omega) (by omega) (by omega)) (fun k _ => ⟨by rw [rr 131 (by decide)], by rw [rr 132 (by decide)]⟩) he.2.2)
theorem wOK_35 {sh : List mE} {I : Nat → Nat → Int32} {L : Nat → Nat → Int64} {R : Nat → Nat → Option Nat} {x : Int32} (hw : wOK (mkT vV []) (wE sh R) (sh, I, L, R)) (hR : nv I 94 52 = nv I 94 35) (hfl : (I 94 201).toInt = 1) (hx : x.toInt = (I 94 35).toInt + 1) (hx2 : x.toInt ≤ 20) : wOK (mkT vV []) (wE sh R) (sh, up2 I 94 35 x, L, R) := by
  have he := hw.2.2.2.2.2.2
  have r35 : 0 ≤ (I 94 35).toInt ∧ (I 94 35).toInt ≤ 20 := hw.2.2.1 94 35
  have n35 : nv (up2 I 94 35 x) 94 35 = nv I 94 35 + 1 := by unfold nv; rw [up2_eq]; omega
  exact wOK_g hw (rgp hw.2.2.1 (by show (0 : Int) ≤ _; omega) (by show _ ≤ (20 : Int); omega)) (e1_same (up2_ne (by decide)) (fun k => up2_ne (fun e => by cases e.1)) he.1) (e2_rule hR hfl (fun q a => funext fun k => up2_ne (fun e => a e.1)) (fun k a => up2_ne (fun e => a e.2)) n35 he.2.1) (e3_far (by rw [n35]; omega) (fun k hk => up2_ne (fun e => by have e2 := e.2; omega)) (fun k _ => ⟨up2_ne (fun e => by cases e.1), up2_ne (fun e => by cases e.1)⟩) he.2.2)
theorem QL_t {sh : List mE} {J : Nat → Nat → Int32} {R : Nat → Nat → Option Nat} {b : Nat → Int} {n N : Nat} {e : Int} {g : Bool × Nat} {w : mW} (eg : g.1 = true) (hQ : QL sh R J b n N e g w) : QL sh R J b n N e (true, g.2) w := by
  have eg2 : g = (true, g.2) := Prod.ext eg rfl
  rw [← eg2]
  exact hQ
def QF (sh : List mE) (R : Nat → Nat → Option Nat) (J : Nat → Nat → Int32) (b : Nat → Int) (n N : Nat) (g : Bool × Nat) (w : mW) : Prop := fresh w ∧ wOK (mkT vV []) (wE sh R) w ∧ (∀ q k, inm mdRl q k = false → w.2.1 q k = J q k) ∧ ∃ h, rsM b n N 0 h 0 w.2.1 g
theorem ru_lp {d : Nat} {sh : List mE} {J : Nat → Nat → Int32} {R : Nat → Nat → Option Nat} {b : Nat → Int} {n N : Nat} {xv : Int32} {Q : Option Value → mW → Prop} (hJ : mBs J b n N) : ∀ (f : Nat) {I : Nat → Nat → Int32} {L : Nat → Nat → Int64} (g : Bool × Nat), QL sh R J b n N 1 g (sh, I, L, R) → g.2 ≤ N → N - g.2 < f → (∀ {I2 : Nat → Nat → Int32} {L2 : Nat → Nat → Int64}, QF sh R J b n N (gB g (fun j => if tK b n j = 59 then gLs (tK b n) 3000 f (j + 1) else if tK b n j = 302 then (true, j) else (false, j))) (sh, I2, L2, R) → XW 277 mr_277 none (d + 4 + (6 * (8 - 0) + 8)) 0 0 Q (119, [(0, .ref 94), (1, .int xv)], [], (sh, I2, L2, R))) → XW 277 mr_277 none (d + 4 + (6 * (8 - 0) + 8)) 0 0 Q (74, [(0, .ref 94), (1, .int xv)], [], (sh, I, L, R)) := by
  have z0 : (0 : Int32).toInt = 0 := rfl
  have z59 : (59 : Int32).toInt = 59 := rfl
  have hN := hJ.2.1.1
  have hN2 := hJ.2.1.2
  intro f
  induction f with
  | zero =>
    intro I L g _ _ hz
    exact absurd hz (Nat.not_lt_zero _)
  | succ f ih =>
    intro I L g hQ hle hfu K2
    obtain ⟨hf, hw, hkR, ⟨h, hrs⟩, hln⟩ := id hQ
    have hkR : ∀ q k, inm mdRl q k = false → I q k = J q k := hkR
    have hB : mBs I b n N := mBs_keep hkR hJ
    have hq0 : QM sh R I b n N 0 h 0 g (sh, I, L, R) := ⟨hf, hw, fun _ _ _ => rfl, hrs⟩
    have c94 : sh[94]? = some (.inr 12) := hw.1 94 _ rfl
    cases e : g.1 with
    | true =>
      have hst : mStt b n N I 0 h g.2 := hrs.2.1 e
      have hqt := QM_t e hq0
      have hln : 2 * (I 125 (nv J 94 52)).toInt ≤ (g.2 : Int) + 1 := hln e
      have m59 : mtok b n (tS b n g.2) = 59 ↔ tK b n g.2 = 59 := mtok_sign hJ.2.2.2 (by decide) (by decide) (by decide)
      have mnd : mtok b n (tS b n g.2) = 0 ↔ tK b n g.2 = 302 := mtok_end hJ.2.2.2
      obtain ⟨fl, efl⟩ : ∃ z : Int32, I 94 50 = z := ⟨_, rfl⟩
      have hfl : fl.toInt = -1 := by rw [← efl]; exact hst.2.1
      obtain ⟨tk, etk⟩ : ∃ z : Int32, I 94 48 = z := ⟨_, rfl⟩
      have htk : tk.toInt = mtok b n (tS b n g.2) := by rw [← etk]; exact hst.1.2.2
      refine XW.fam (S' := (75, [(0, .ref 94), (1, .int xv)], [.ref 94], (sh, I, L, R))) (M := mr_277) rfl (show mcode 277 74 = some (74, .aload_n 0, 1, 0, 0, 0, _) from rfl) (Or.inl ⟨.ref 94, rfl, rfl⟩) ?_
      refine XW.fam (S' := (78, [(0, .ref 94), (1, .int xv)], [.int (I 94 50)], (sh, I, L, R))) (M := mr_277) rfl (show mcode 277 75 = some (75, .getfield 370, 3, 12, 50, 0, _) from rfl) (Or.inr (Or.inr (Or.inr (Or.inr (Or.inr (Or.inr (Or.inr (Or.inl ⟨_, _, rfl, fl_ldI c94 (by decide) (by decide), rfl⟩)))))))) ?_
      rw [efl]
      have k1 : bcmp .ge fl 0 = false := bcF (c := .ge) (a := (fl).toInt) (b := 0) rfl (by decide) (by show ¬ (0 ≤ (fl).toInt); omega)
      refine XW.fam (S' := (81, [(0, .ref 94), (1, .int xv)], [], (sh, I, L, R))) (M := mr_277) rfl (show mcode 277 78 = some (78, .ifCond .ge 23, 3, 101, 0, 0, _) from rfl) (Or.inr (Or.inl ⟨81, [], by simp [brn, k1], rfl⟩)) ?_
      refine XW.fam (S' := (82, [(0, .ref 94), (1, .int xv)], [.ref 94], (sh, I, L, R))) (M := mr_277) rfl (show mcode 277 81 = some (81, .aload_n 0, 1, 0, 0, 0, _) from rfl) (Or.inl ⟨.ref 94, rfl, rfl⟩) ?_
      refine XW.fam (S' := (85, [(0, .ref 94), (1, .int xv)], [.int (I 94 48)], (sh, I, L, R))) (M := mr_277) rfl (show mcode 277 82 = some (82, .getfield 354, 3, 12, 48, 0, _) from rfl) (Or.inr (Or.inr (Or.inr (Or.inr (Or.inr (Or.inr (Or.inr (Or.inl ⟨_, _, rfl, fl_ldI c94 (by decide) (by decide), rfl⟩)))))))) ?_
      rw [etk]
      refine XW.fam (S' := (87, [(0, .ref 94), (1, .int xv)], [.int 59, .int tk], (sh, I, L, R))) (M := mr_277) rfl (show mcode 277 85 = some (85, .bipush 59, 2, 0, 0, 0, _) from rfl) (Or.inl ⟨.int 59, rfl, rfl⟩) ?_
      cases k2 : bcmp .ne tk 59 with
      | true =>
        have gk2 : ¬ (tk).toInt = 59 := icT (c := .ne) (a := (tk).toInt) (b := 59) rfl (by decide) k2
        refine XW.fam (S' := (101, [(0, .ref 94), (1, .int xv)], [], (sh, I, L, R))) (M := mr_277) rfl (show mcode 277 87 = some (87, .if_icmp .ne 14, 3, 101, 0, 0, _) from rfl) (Or.inr (Or.inl ⟨101, [], by simp [brn, k2], rfl⟩)) ?_
        refine XW.fam (S' := (102, [(0, .ref 94), (1, .int xv)], [.ref 94], (sh, I, L, R))) (M := mr_277) rfl (show mcode 277 101 = some (101, .aload_n 0, 1, 0, 0, 0, _) from rfl) (Or.inl ⟨.ref 94, rfl, rfl⟩) ?_
        refine XW.fam (S' := (105, [(0, .ref 94), (1, .int xv)], [.int (I 94 50)], (sh, I, L, R))) (M := mr_277) rfl (show mcode 277 102 = some (102, .getfield 370, 3, 12, 50, 0, _) from rfl) (Or.inr (Or.inr (Or.inr (Or.inr (Or.inr (Or.inr (Or.inr (Or.inl ⟨_, _, rfl, fl_ldI c94 (by decide) (by decide), rfl⟩)))))))) ?_
        rw [efl]
        have k3 : bcmp .ge fl 0 = false := bcF (c := .ge) (a := (fl).toInt) (b := 0) rfl (by decide) (by show ¬ (0 ≤ (fl).toInt); omega)
        refine XW.fam (S' := (108, [(0, .ref 94), (1, .int xv)], [], (sh, I, L, R))) (M := mr_277) rfl (show mcode 277 105 = some (105, .ifCond .ge 14, 3, 119, 0, 0, _) from rfl) (Or.inr (Or.inl ⟨108, [], by simp [brn, k3], rfl⟩)) ?_
        refine XW.fam (S' := (109, [(0, .ref 94), (1, .int xv)], [.ref 94], (sh, I, L, R))) (M := mr_277) rfl (show mcode 277 108 = some (108, .aload_n 0, 1, 0, 0, 0, _) from rfl) (Or.inl ⟨.ref 94, rfl, rfl⟩) ?_
        refine XW.fam (S' := (112, [(0, .ref 94), (1, .int xv)], [.int (I 94 48)], (sh, I, L, R))) (M := mr_277) rfl (show mcode 277 109 = some (109, .getfield 354, 3, 12, 48, 0, _) from rfl) (Or.inr (Or.inr (Or.inr (Or.inr (Or.inr (Or.inr (Or.inr (Or.inl ⟨_, _, rfl, fl_ldI c94 (by decide) (by decide), rfl⟩)))))))) ?_
        rw [etk]
        cases k4 : bcmp .eq tk 0 with
        | true =>
          have gk4 : (tk).toInt = 0 := icT (c := .eq) (a := (tk).toInt) (b := 0) rfl (by decide) k4
          refine XW.fam (S' := (119, [(0, .ref 94), (1, .int xv)], [], (sh, I, L, R))) (M := mr_277) rfl (show mcode 277 112 = some (112, .ifCond .eq 7, 3, 119, 0, 0, _) from rfl) (Or.inr (Or.inl ⟨119, [], by simp [brn, k4], rfl⟩)) ?_
          refine XW.sub (ls' := [(0, .ref 94), (1, .int xv)]) (List.forall_mem_cons.mpr ⟨List.mem_of_getElem? (i := 0) rfl, (List.forall_mem_cons.mpr ⟨List.mem_of_getElem? (i := 1) rfl, (fun _ h => absurd h List.not_mem_nil)⟩)⟩) ?_
          refine K2 ?_
          rw [gB_t e, if_neg (by omega), if_pos (by omega)]
          exact ⟨hf, hw, hkR, h, (QM_t e hq0).2.2.2⟩
        | false =>
          have gk4 : ¬ ((tk).toInt = 0) := icF (c := .eq) (a := (tk).toInt) (b := 0) rfl (by decide) k4
          refine XW.fam (S' := (115, [(0, .ref 94), (1, .int xv)], [], (sh, I, L, R))) (M := mr_277) rfl (show mcode 277 112 = some (112, .ifCond .eq 7, 3, 119, 0, 0, _) from rfl) (Or.inr (Or.inl ⟨115, [], by simp [brn, k4], rfl⟩)) ?_
          refine XW.fam (S' := (116, [(0, .ref 94), (1, .int xv)], [.ref 94], (sh, I, L, R))) (M := mr_277) rfl (show mcode 277 115 = some (115, .aload_n 0, 1, 0, 0, 0, _) from rfl) (Or.inl ⟨.ref 94, rfl, rfl⟩) ?_
          refine XW.call (d' := d) (mc' := 0) (ms' := 0) (av := [.ref 94]) (rest := []) (M := mr_277) (Ma := mr_283) rfl (show mcode 277 116 = some (116, .invokevirtual 382, 3, 283, 0, 0, _) from rfl) rfl (by decide) (by decide) ⟨rfl, 94, _, rfl, c94⟩ rfl rfl (show 0 ≤ 8 by decide) (tc_wrM (d := d) (h2 := 0) hB hqt) (by omega) (Nat.zero_le _) (Nat.zero_le _) (fun rQ5 wQ5 Q5 => ?_)
          obtain ⟨hrQ5, hqQ5⟩ := Q5
          subst hrQ5
          obtain ⟨shQ5, IQ5, LQ5, RQ5⟩ := wQ5
          obtain rfl : sh = shQ5 := hqQ5.2.1.2.2.2.1.symm
          obtain rfl : R = RQ5 := hqQ5.2.1.2.2.2.2.1.symm
          refine XW.sub (ls' := [(0, .ref 94), (1, .int xv)]) (List.forall_mem_cons.mpr ⟨List.mem_of_getElem? (i := 0) rfl, (List.forall_mem_cons.mpr ⟨List.mem_of_getElem? (i := 1) rfl, (fun _ h => absurd h List.not_mem_nil)⟩)⟩) ?_
          refine K2 ?_
          rw [gB_t e, if_neg (by omega), if_neg (by omega)]
          exact ⟨hqQ5.1, hqQ5.2.1, fun q k z => (hqQ5.2.2.1 q k (inm_MR z)).trans (hkR q k z), 0, hqQ5.2.2.2⟩
      | false =>
        have gk2 : ¬ (¬ (tk).toInt = 59) := icF (c := .ne) (a := (tk).toInt) (b := 59) rfl (by decide) k2
        refine XW.fam (S' := (90, [(0, .ref 94), (1, .int xv)], [], (sh, I, L, R))) (M := mr_277) rfl (show mcode 277 87 = some (87, .if_icmp .ne 14, 3, 101, 0, 0, _) from rfl) (Or.inr (Or.inl ⟨90, [], by simp [brn, k2], rfl⟩)) ?_
        refine XW.fam (S' := (91, [(0, .ref 94), (1, .int xv)], [.ref 94], (sh, I, L, R))) (M := mr_277) rfl (show mcode 277 90 = some (90, .aload_n 0, 1, 0, 0, 0, _) from rfl) (Or.inl ⟨.ref 94, rfl, rfl⟩) ?_
        refine XW.call (d' := d + 2) (mc' := 0) (ms' := 0) (av := [.ref 94]) (rest := []) (M := mr_277) (Ma := mr_278) rfl (show mcode 277 91 = some (91, .invokevirtual 385, 3, 278, 0, 0, _) from rfl) rfl (by decide) (by decide) ⟨rfl, 94, _, rfl, c94⟩ rfl rfl (show 0 ≤ 8 by decide) (tc_nxtM (d := d) (c2 := 1) hB hqt (lt_N hN hle (by omega)) rfl) (by omega) (Nat.zero_le _) (Nat.zero_le _) (fun rQ6 wQ6 Q6 => ?_)
        obtain ⟨hrQ6, hqQ6⟩ := Q6
        subst hrQ6
        obtain ⟨shQ6, IQ6, LQ6, RQ6⟩ := wQ6
        obtain rfl : sh = shQ6 := hqQ6.2.1.2.2.2.1.symm
        obtain rfl : R = RQ6 := hqQ6.2.1.2.2.2.2.1.symm
        have kq : ∀ q k, inm mdM q k = false → IQ6 q k = I q k := hqQ6.2.2.1
        have hQ1 : QL sh R J b n N 0 (true, g.2 + 1) (sh, IQ6, LQ6, R) := by
          refine ⟨hqQ6.1, hqQ6.2.1, fun q k z => (kq q k (inm_MR z)).trans (hkR q k z), ⟨h, ⟨?_, hqQ6.2.2.2.1.2⟩, hqQ6.2.2.2.2.1, hqQ6.2.2.2.2.2⟩, fun _ => ?_⟩
          · have z : (IQ6 94 53).toInt + 1 ≤ ((g.2 + 1 : Nat) : Int) := hqQ6.2.2.2.1.1
            show (IQ6 94 53).toInt + 0 ≤ ((g.2 + 1 : Nat) : Int)
            omega
          · show 2 * (IQ6 125 (nv J 94 52)).toInt ≤ ((g.2 + 1 : Nat) : Int) + 0
            rw [kq 125 _ rfl]
            omega
        refine XW.fam (S' := (95, [(0, .ref 94), (1, .int xv)], [.ref 94], (sh, IQ6, LQ6, R))) (M := mr_277) rfl (show mcode 277 94 = some (94, .aload_n 0, 1, 0, 0, 0, _) from rfl) (Or.inl ⟨.ref 94, rfl, rfl⟩) ?_
        refine XW.call (d' := (d + 4 + (6 * (8 - 0) + 7))) (mc' := 0) (ms' := 0) (av := [.ref 94]) (rest := []) (M := mr_277) (Ma := mr_281) rfl (show mcode 277 95 = some (95, .invokevirtual 447, 3, 281, 0, 0, _) from rfl) rfl (by decide) (by decide) ⟨rfl, 94, _, rfl, c94⟩ rfl rfl (show 0 ≤ 8 by decide) (tc_lineM (d := d) hJ hQ1) (by omega) (Nat.zero_le _) (Nat.zero_le _) (fun rQ7 wQ7 Q7 => ?_)
        obtain ⟨hrQ7, hQQ7⟩ := Q7
        subst hrQ7
        obtain ⟨shQ7, IQ7, LQ7, RQ7⟩ := wQ7
        obtain rfl : sh = shQ7 := hQQ7.2.1.2.2.2.1.symm
        obtain rfl : R = RQ7 := hQQ7.2.1.2.2.2.2.1.symm
        refine XW.fam (S' := (74, [(0, .ref 94), (1, .int xv)], [], (sh, IQ7, LQ7, R))) (M := mr_277) rfl (show mcode 277 98 = some (98, .goto (-24), 3, 74, 0, 0, _) from rfl) (Or.inr (Or.inl ⟨74, [], rfl, rfl⟩)) ?_
        refine XW.sub (ls' := [(0, .ref 94), (1, .int xv)]) (List.forall_mem_cons.mpr ⟨List.mem_of_getElem? (i := 0) rfl, (List.forall_mem_cons.mpr ⟨List.mem_of_getElem? (i := 1) rfl, (fun _ h => absurd h List.not_mem_nil)⟩)⟩) ?_
        have hgo := gLn_ok (F := 3000) (i := g.2 + 1) hN (lt_N hN hle (by omega))
        have g1 := hgo.1
        have g2 := hgo.2.1
        have eg9 : gB g (fun j => if tK b n j = 59 then gLs (tK b n) 3000 (f + 1) (j + 1) else if tK b n j = 302 then (true, j) else (false, j)) = gB (gLn (tK b n) 3000 (g.2 + 1)) (fun j => if tK b n j = 59 then gLs (tK b n) 3000 f (j + 1) else if tK b n j = 302 then (true, j) else (false, j)) := by
          rw [gB_t e, if_pos (by omega)]
          rfl
        refine ih (gLn (tK b n) 3000 (g.2 + 1)) hQQ7 (by omega) (by omega) (fun {I2 L2} h9 => K2 (by rw [eg9]; exact h9))
    | false =>
      obtain ⟨fl, efl⟩ : ∃ z : Int32, I 94 50 = z := ⟨_, rfl⟩
      have hfl : fl.toInt = (tS b n g.2 : Int) := by rw [← efl]; exact (hrs.2.2 e).1
      refine XW.fam (S' := (75, [(0, .ref 94), (1, .int xv)], [.ref 94], (sh, I, L, R))) (M := mr_277) rfl (show mcode 277 74 = some (74, .aload_n 0, 1, 0, 0, 0, _) from rfl) (Or.inl ⟨.ref 94, rfl, rfl⟩) ?_
      refine XW.fam (S' := (78, [(0, .ref 94), (1, .int xv)], [.int (I 94 50)], (sh, I, L, R))) (M := mr_277) rfl (show mcode 277 75 = some (75, .getfield 370, 3, 12, 50, 0, _) from rfl) (Or.inr (Or.inr (Or.inr (Or.inr (Or.inr (Or.inr (Or.inr (Or.inl ⟨_, _, rfl, fl_ldI c94 (by decide) (by decide), rfl⟩)))))))) ?_
      rw [efl]
      have k1 : bcmp .ge fl 0 = true := bcT (c := .ge) (a := (fl).toInt) (b := 0) rfl (by decide) (by show 0 ≤ (fl).toInt; omega)
      refine XW.fam (S' := (101, [(0, .ref 94), (1, .int xv)], [], (sh, I, L, R))) (M := mr_277) rfl (show mcode 277 78 = some (78, .ifCond .ge 23, 3, 101, 0, 0, _) from rfl) (Or.inr (Or.inl ⟨101, [], by simp [brn, k1], rfl⟩)) ?_
      refine XW.fam (S' := (102, [(0, .ref 94), (1, .int xv)], [.ref 94], (sh, I, L, R))) (M := mr_277) rfl (show mcode 277 101 = some (101, .aload_n 0, 1, 0, 0, 0, _) from rfl) (Or.inl ⟨.ref 94, rfl, rfl⟩) ?_
      refine XW.fam (S' := (105, [(0, .ref 94), (1, .int xv)], [.int (I 94 50)], (sh, I, L, R))) (M := mr_277) rfl (show mcode 277 102 = some (102, .getfield 370, 3, 12, 50, 0, _) from rfl) (Or.inr (Or.inr (Or.inr (Or.inr (Or.inr (Or.inr (Or.inr (Or.inl ⟨_, _, rfl, fl_ldI c94 (by decide) (by decide), rfl⟩)))))))) ?_
      rw [efl]
      have k2 : bcmp .ge fl 0 = true := bcT (c := .ge) (a := (fl).toInt) (b := 0) rfl (by decide) (by show 0 ≤ (fl).toInt; omega)
      refine XW.fam (S' := (119, [(0, .ref 94), (1, .int xv)], [], (sh, I, L, R))) (M := mr_277) rfl (show mcode 277 105 = some (105, .ifCond .ge 14, 3, 119, 0, 0, _) from rfl) (Or.inr (Or.inl ⟨119, [], by simp [brn, k2], rfl⟩)) ?_
      refine XW.sub (ls' := [(0, .ref 94), (1, .int xv)]) (List.forall_mem_cons.mpr ⟨List.mem_of_getElem? (i := 0) rfl, (List.forall_mem_cons.mpr ⟨List.mem_of_getElem? (i := 1) rfl, (fun _ h => absurd h List.not_mem_nil)⟩)⟩) ?_
      refine K2 ?_
      rw [gB_f e]
      exact ⟨hf, hw, hkR, h, hrs⟩
def mdRu : aM := mdRl ++ [(94, some 34), (94, some 35), (94, some 52), (123, none), (124, none)]
theorem inm_Ru {q k : Nat} (hq : inm mdRu q k = false) : inm mdRl q k = false := inm_sub (A := mdRl) (B := mdRu) (fun e he => List.mem_append_left _ he) hq
theorem ruW_n {c k : Nat} {rl v : Int} {f : Nat → Int} (h : ¬ c = 3) : ruW c rl v f k = f k := if_neg (fun e => h e.1)
theorem ruW_k {k : Nat} {rl v : Int} {f : Nat → Int} (h : ¬ (k : Int) = rl) : ruW 3 rl v f k = f k := if_neg (fun e => h e.2)
theorem ruW_y {k : Nat} {rl v : Int} {f : Nat → Int} (h : (k : Int) = rl) : ruW 3 rl v f k = v := if_pos ⟨rfl, h⟩
def RUM (I : Nat → Nat → Int32) (x : Int32) (c : Nat) (fl : Int) (r : Option Value) (I' : Nat → Nat → Int32) : Prop := (∃ y : Int32, r = some (.int y) ∧ y.toInt = ruY c (I 94 35).toInt fl) ∧ (∀ q k, inm mdRu q k = false → I' q k = I q k) ∧ (I' 94 34).toInt = ruL c (I 94 34).toInt ∧ (I' 94 35).toInt = ruR c (I 94 35).toInt ∧ (∀ k, (I' 123 k).toInt = ruW c (I 94 35).toInt (I 94 1).toInt (fun k => (I 123 k).toInt) k) ∧ ∀ k, (I' 124 k).toInt = ruW c (I 94 35).toInt x.toInt (fun k => (I 124 k).toInt) k
theorem sub100 {fl : Int32} (h0 : -1 ≤ fl.toInt) (h1 : fl.toInt ≤ 1000000000) : ((-100 : Int32) - fl).toInt = -100 - fl.toInt := by
  have z : (-100 : Int32).toInt = -100 := rfl
  rw [difS (a := -100) (b := fl) (by rw [z]; decide) ⟨by omega, by omega⟩, z]
theorem RUM_same {I : Nat → Nat → Int32} {x y : Int32} {c : Nat} {fl : Int} (hc : c < 2) (hy : y.toInt = ruY c (I 94 35).toInt fl) : RUM I x c fl (some (.int y)) I := ⟨⟨y, rfl, hy⟩, fun _ _ _ => rfl, (if_pos hc).symm, (if_neg (by omega)).symm, fun k => (ruW_n (c := c) (k := k) (f := fun k => (I 123 k).toInt) (by omega)).symm, fun k => (ruW_n (c := c) (k := k) (f := fun k => (I 124 k).toInt) (by omega)).symm⟩
theorem tc_ruleM {d : Nat} {sh : List mE} {I : Nat → Nat → Int32} {L : Nat → Nat → Int64} {R : Nat → Nat → Option Nat} {xv : Int32} (hw : wOK (mkT vV []) (wE sh R) (sh, I, L, R)) (hf : fresh (sh, I, L, R)) : Tc 277 (d + 4 + (6 * (8 - 0) + 8)) 0 0 [.ref 94, .int xv] (sh, I, L, R) (fun r w' => RUM I xv (ruC (I 94 1).toInt xv.toInt (I 94 35).toInt (gFl (fun k => (I 122 k).toInt) (I 94 34).toInt.toNat)) (gFl (fun k => (I 122 k).toInt) (I 94 34).toInt.toNat) r w'.2.1 ∧ fresh w' ∧ wOK (mkT vV []) (wE sh R) w') := by
  have c94 : sh[94]? = some (.inr 12) := hw.1 94 _ rfl
  have c123 : sh[123]? = some (.inl (.int, 20)) := hw.1 123 _ rfl
  have c124 : sh[124]? = some (.inl (.int, 20)) := hw.1 124 _ rfl
  have c125 : sh[125]? = some (.inl (.int, 21)) := hw.1 125 _ rfl
  have r94_36 : R 94 36 = some 123 := hw.2.1 94 36 _ rfl
  have r94_37 : R 94 37 = some 124 := hw.2.1 94 37 _ rfl
  have r94_38 : R 94 38 = some 125 := hw.2.1 94 38 _ rfl
  have zm100 : ((-100) : Int32).toInt = (-100) := rfl
  have zm3 : ((-3) : Int32).toInt = (-3) := rfl
  have zm1 : ((-1) : Int32).toInt = (-1) := rfl
  have z0 : (0 : Int32).toInt = 0 := rfl
  have z1 : (1 : Int32).toInt = 1 := rfl
  have z20 : (20 : Int32).toInt = 20 := rfl
  have z700 : (700 : Int32).toInt = 700 := rfl
  have r35 : 0 ≤ (I 94 35).toInt ∧ (I 94 35).toInt ≤ 20 := hw.2.2.1 94 35
  have r1 : 0 ≤ (I 94 1).toInt ∧ (I 94 1).toInt ≤ 700 := hw.2.2.1 94 1
  obtain ⟨td, etd⟩ : ∃ z : Int32, I 94 1 = z := ⟨_, rfl⟩
  obtain ⟨rv, erv⟩ : ∃ z : Int32, I 94 35 = z := ⟨_, rfl⟩
  rw [etd, erv]
  rw [etd] at r1
  rw [erv] at r35
  refine Tc.of mr_277 rfl (show 2 ≤ mr_277.2.2.2.1 by decide) ?_
  refine XW.fam (S' := (1, [(0, .ref 94), (1, .int xv)], [.int xv], (sh, I, L, R))) (M := mr_277) rfl (show mcode 277 0 = some (0, .iload_n 1, 1, 0, 0, 0, _) from rfl) (Or.inl ⟨.int xv, rfl, rfl⟩) ?_
  refine XW.fam (S' := (2, [(0, .ref 94), (1, .int xv)], [.ref 94, .int xv], (sh, I, L, R))) (M := mr_277) rfl (show mcode 277 1 = some (1, .aload_n 0, 1, 0, 0, 0, _) from rfl) (Or.inl ⟨.ref 94, rfl, rfl⟩) ?_
  refine XW.fam (S' := (5, [(0, .ref 94), (1, .int xv)], [.int (I 94 1), .int xv], (sh, I, L, R))) (M := mr_277) rfl (show mcode 277 2 = some (2, .getfield 303, 3, 12, 1, 0, _) from rfl) (Or.inr (Or.inr (Or.inr (Or.inr (Or.inr (Or.inr (Or.inr (Or.inl ⟨_, _, rfl, fl_ldI c94 (by decide) (by decide), rfl⟩)))))))) ?_
  rw [etd]
  refine XW.fam (S' := (8, [(0, .ref 94), (1, .int xv)], [.int 700, .int td, .int xv], (sh, I, L, R))) (M := mr_277) rfl (show mcode 277 5 = some (5, .sipush 700, 3, 0, 0, 0, _) from rfl) (Or.inl ⟨.int 700, rfl, rfl⟩) ?_
  refine XW.call (d' := d) (mc' := 0) (ms' := 0) (av := [.int xv, .int td, .int 700]) (rest := []) (M := mr_277) (Ma := mr_236) rfl (show mcode 277 8 = some (8, .invokestatic 254, 3, 236, 0, 0, _) from rfl) rfl (by decide) (by decide) rfl rfl rfl (show 0 ≤ 8 by decide) (tc_inM) (by omega) (Nat.zero_le _) (Nat.zero_le _) (fun rQ1 wQ1 Q1 => ?_)
  obtain ⟨hQ1, rfl⟩ := Q1
  rcases hQ1 with ⟨rfl, gQ1⟩ | ⟨rfl, gQ1⟩
  · skip
    refine XW.fam (S' := (14, [(0, .ref 94), (1, .int xv)], [], (sh, I, L, R))) (M := mr_277) rfl (show mcode 277 11 = some (11, .ifCond .ne 5, 3, 16, 0, 0, _) from rfl) (Or.inr (Or.inl ⟨14, [], rfl, rfl⟩)) ?_
    refine XW.fam (S' := (15, [(0, .ref 94), (1, .int xv)], [.int (-1)], (sh, I, L, R))) (M := mr_277) rfl (show mcode 277 14 = some (14, .iconst (-1), 1, 0, 0, 0, _) from rfl) (Or.inl ⟨.int (-1), rfl, rfl⟩) ?_
    refine XW.ret (r := some (.int (-1))) ⟨⟨.int, rfl, rfl⟩, by decide +kernel⟩ ?_
    first
      | (have ec : (ruC td.toInt xv.toInt rv.toInt (gFl (fun k => (I 122 k).toInt) (I 94 34).toInt.toNat)) = 0 := if_neg (by omega)
         rw [ec]
         exact ⟨RUM_same (by decide) rfl, hf, hw⟩)
      | (have ec : (ruC td.toInt xv.toInt rv.toInt (gFl (fun k => (I 122 k).toInt) (I 94 34).toInt.toNat)) = 1 := by
           unfold ruC
           rw [if_pos (by omega), if_pos (by omega)]
         rw [ec]
         exact ⟨RUM_same (by decide) rfl, hf, hw⟩)
  · skip
    refine XW.fam (S' := (16, [(0, .ref 94), (1, .int xv)], [], (sh, I, L, R))) (M := mr_277) rfl (show mcode 277 11 = some (11, .ifCond .ne 5, 3, 16, 0, 0, _) from rfl) (Or.inr (Or.inl ⟨16, [], rfl, rfl⟩)) ?_
    refine XW.fam (S' := (17, [(0, .ref 94), (1, .int xv)], [.ref 94], (sh, I, L, R))) (M := mr_277) rfl (show mcode 277 16 = some (16, .aload_n 0, 1, 0, 0, 0, _) from rfl) (Or.inl ⟨.ref 94, rfl, rfl⟩) ?_
    refine XW.fam (S' := (20, [(0, .ref 94), (1, .int xv)], [.int (I 94 35)], (sh, I, L, R))) (M := mr_277) rfl (show mcode 277 17 = some (17, .getfield 444, 3, 12, 35, 0, _) from rfl) (Or.inr (Or.inr (Or.inr (Or.inr (Or.inr (Or.inr (Or.inr (Or.inl ⟨_, _, rfl, fl_ldI c94 (by decide) (by decide), rfl⟩)))))))) ?_
    rw [erv]
    refine XW.fam (S' := (22, [(0, .ref 94), (1, .int xv)], [.int 20, .int rv], (sh, I, L, R))) (M := mr_277) rfl (show mcode 277 20 = some (20, .bipush 20, 2, 0, 0, 0, _) from rfl) (Or.inl ⟨.int 20, rfl, rfl⟩) ?_
    cases k2 : bcmp .ne rv 20 with
    | true =>
      have gk2 : ¬ (rv).toInt = 20 := icT (c := .ne) (a := (rv).toInt) (b := 20) rfl (by decide) k2
      refine XW.fam (S' := (28, [(0, .ref 94), (1, .int xv)], [], (sh, I, L, R))) (M := mr_277) rfl (show mcode 277 22 = some (22, .if_icmp .ne 6, 3, 28, 0, 0, _) from rfl) (Or.inr (Or.inl ⟨28, [], by simp [brn, k2], rfl⟩)) ?_
      refine XW.gh (q := 94) (g := 201) (x := 0) c94 (by decide +kernel) ?_
      obtain ⟨Ig, eIg⟩ : ∃ X, X = up2 I 94 201 0 := ⟨_, rfl⟩
      rw [← eIg]
      have v3 : Ig 94 1 = td := by rw [eIg, up2_ne (by decide)]; exact etd
      have v4 : Ig 94 35 = rv := by rw [eIg, up2_ne (by decide)]; exact erv
      have hwg : wOK (mkT vV []) (wE sh R) (sh, Ig, L, R) := by rw [eIg]; exact wOK_off hw
      have hfg : fresh (sh, Ig, L, R) := by rw [eIg]; exact fresh_gh c94 hf
      have hg0 : ¬ (Ig 94 201).toInt = 1 := by rw [eIg, up2_eq]; decide
      refine XW.fam (S' := (29, [(0, .ref 94), (1, .int xv)], [.ref 94], (sh, Ig, L, R))) (M := mr_277) rfl (show mcode 277 28 = some (28, .aload_n 0, 1, 0, 0, 0, _) from rfl) (Or.inl ⟨.ref 94, rfl, rfl⟩) ?_
      refine XW.fam (S' := (30, [(0, .ref 94), (1, .int xv)], [.ref 94, .ref 94], (sh, Ig, L, R))) (M := mr_277) rfl (show mcode 277 29 = some (29, .aload_n 0, 1, 0, 0, 0, _) from rfl) (Or.inl ⟨.ref 94, rfl, rfl⟩) ?_
      refine XW.fam (S' := (33, [(0, .ref 94), (1, .int xv)], [.int (Ig 94 35), .ref 94], (sh, Ig, L, R))) (M := mr_277) rfl (show mcode 277 30 = some (30, .getfield 444, 3, 12, 35, 0, _) from rfl) (Or.inr (Or.inr (Or.inr (Or.inr (Or.inr (Or.inr (Or.inr (Or.inl ⟨_, _, rfl, fl_ldI c94 (by decide) (by decide), rfl⟩)))))))) ?_
      rw [v4]
      obtain ⟨I5, eI5⟩ : ∃ X, X = up2 Ig 94 52 rv := ⟨_, rfl⟩
      refine XW.fam (S' := (36, [(0, .ref 94), (1, .int xv)], [], (sh, I5, L, R))) (M := mr_277) rfl (show mcode 277 33 = some (33, .putfield 373, 3, 12, 52, 0, _) from rfl) (Or.inr (Or.inr (Or.inr (Or.inr (Or.inr (Or.inr (Or.inr (Or.inr (Or.inl ⟨_, _, _, rfl, by rw [eI5]; exact stf_I c94 (by decide) (by decide) (by decide), rfl⟩))))))))) ?_
      have hwI5 : wOK (mkT vV []) (wE sh R) (sh, I5, L, R) := by rw [eI5]; exact wOK_52 hwg hg0 ⟨by omega, by omega⟩
      have hfI5 : fresh (sh, I5, L, R) := by rw [eI5]; exact fresh_I hfg c94
      have v6 : I5 94 1 = td := by rw [eI5, up2_ne (by decide)]; exact v3
      have v7 : I5 94 35 = rv := by rw [eI5, up2_ne (by decide)]; exact v4
      have v8 : I5 94 52 = rv := by rw [eI5]; exact up2_eq
      refine XW.fam (S' := (37, [(0, .ref 94), (1, .int xv)], [.ref 94], (sh, I5, L, R))) (M := mr_277) rfl (show mcode 277 36 = some (36, .aload_n 0, 1, 0, 0, 0, _) from rfl) (Or.inl ⟨.ref 94, rfl, rfl⟩) ?_
      refine XW.fam (S' := (40, [(0, .ref 94), (1, .int xv)], [.ref 125], (sh, I5, L, R))) (M := mr_277) rfl (show mcode 277 37 = some (37, .getfield 106, 3, 12, 38, 0, _) from rfl) (Or.inr (Or.inr (Or.inr (Or.inr (Or.inr (Or.inr (Or.inr (Or.inl ⟨_, _, rfl, fl_ld c94 r94_38 (by decide) (by decide), rfl⟩)))))))) ?_
      refine XW.fam (S' := (41, [(0, .ref 94), (1, .int xv)], [.ref 94, .ref 125], (sh, I5, L, R))) (M := mr_277) rfl (show mcode 277 40 = some (40, .aload_n 0, 1, 0, 0, 0, _) from rfl) (Or.inl ⟨.ref 94, rfl, rfl⟩) ?_
      refine XW.fam (S' := (44, [(0, .ref 94), (1, .int xv)], [.int (I5 94 52), .ref 125], (sh, I5, L, R))) (M := mr_277) rfl (show mcode 277 41 = some (41, .getfield 373, 3, 12, 52, 0, _) from rfl) (Or.inr (Or.inr (Or.inr (Or.inr (Or.inr (Or.inr (Or.inr (Or.inl ⟨_, _, rfl, fl_ldI c94 (by decide) (by decide), rfl⟩)))))))) ?_
      rw [v8]
      refine XW.fam (S' := (45, [(0, .ref 94), (1, .int xv)], [.int 0, .int rv, .ref 125], (sh, I5, L, R))) (M := mr_277) rfl (show mcode 277 44 = some (44, .iconst 0, 1, 0, 0, 0, _) from rfl) (Or.inl ⟨.int 0, rfl, rfl⟩) ?_
      have hin9 : inR rv 21 = true := inR_of (by omega) (by omega)
      obtain ⟨I10, eI10⟩ : ∃ X, X = up2 I5 125 (rv).toNatClampNeg 0 := ⟨_, rfl⟩
      refine XW.fam (S' := (46, [(0, .ref 94), (1, .int xv)], [], (sh, I10, L, R))) (M := mr_277) rfl (show mcode 277 45 = some (45, .iastore, 1, 0, 0, 0, _) from rfl) (Or.inr (Or.inr (Or.inr (Or.inl ⟨_, _, by rw [eI10]; exact sta_i c125 hin9, rfl⟩)))) ?_
      have hwI10 : wOK (mkT vV []) (wE sh R) (sh, I10, L, R) := by rw [eI10]; exact wOK_125 hwI5 (by rw [eI5, up2_ne (by decide)]; exact hg0) (by unfold nv; rw [v7]; rfl)
      have hfI10 : fresh (sh, I10, L, R) := by rw [eI10]; exact fresh_I hfI5 c125
      have v11 : I10 94 1 = td := by rw [eI10, up2_ne (fun e => by cases e.1)]; exact v6
      have v12 : I10 94 35 = rv := by rw [eI10, up2_ne (fun e => by cases e.1)]; exact v7
      have v13 : I10 94 52 = rv := by rw [eI10, up2_ne (fun e => by cases e.1)]; exact v8
      have v14 : I10 125 (rv).toNatClampNeg = 0 := by rw [eI10]; exact up2_eq
      have hm0 : nv I10 125 (nv I10 94 52) = 0 := by
        have e9 : nv I10 94 52 = (rv).toNatClampNeg := by unfold nv; rw [v13]; rfl
        rw [e9]
        unfold nv
        rw [v14]
        decide
      refine XW.gh (q := 94) (g := 200) (x := 0) c94 (by decide +kernel) ?_
      refine XW.gh (q := 94) (g := 201) (x := 1) c94 (by decide +kernel) ?_
      refine XW.gh (q := 94) (g := 202) (x := 0) c94 (by decide +kernel) ?_
      refine XW.gh (q := 94) (g := 203) (x := 0) c94 (by decide +kernel) ?_
      obtain ⟨Ih, eIh⟩ : ∃ X, X = up2 (up2 (up2 (up2 I10 94 200 0) 94 201 1) 94 202 0) 94 203 0 := ⟨_, rfl⟩
      rw [← eIh]
      have v15 : Ih 94 1 = td := by rw [eIh, up2_ne (by decide), up2_ne (by decide), up2_ne (by decide), up2_ne (by decide)]; exact v11
      have v16 : Ih 94 35 = rv := by rw [eIh, up2_ne (by decide), up2_ne (by decide), up2_ne (by decide), up2_ne (by decide)]; exact v12
      have v17 : Ih 94 52 = rv := by rw [eIh, up2_ne (by decide), up2_ne (by decide), up2_ne (by decide), up2_ne (by decide)]; exact v13
      have v18 : Ih 125 (rv).toNatClampNeg = 0 := by rw [eIh, up2_ne (fun e => by cases e.1), up2_ne (fun e => by cases e.1), up2_ne (fun e => by cases e.1), up2_ne (fun e => by cases e.1)]; exact v14
      have hfh : fresh (sh, Ih, L, R) := by rw [eIh]; exact fresh_gh c94 (fresh_gh c94 (fresh_gh c94 (fresh_gh c94 hfI10)))
      refine XW.fam (S' := (47, [(0, .ref 94), (1, .int xv)], [.ref 94], (sh, Ih, L, R))) (M := mr_277) rfl (show mcode 277 46 = some (46, .aload_n 0, 1, 0, 0, 0, _) from rfl) (Or.inl ⟨.ref 94, rfl, rfl⟩) ?_
      refine XW.fam (S' := (48, [(0, .ref 94), (1, .int xv)], [.int 0, .ref 94], (sh, Ih, L, R))) (M := mr_277) rfl (show mcode 277 47 = some (47, .iconst 0, 1, 0, 0, 0, _) from rfl) (Or.inl ⟨.int 0, rfl, rfl⟩) ?_
      obtain ⟨I19, eI19⟩ : ∃ X, X = up2 Ih 94 53 0 := ⟨_, rfl⟩
      refine XW.fam (S' := (51, [(0, .ref 94), (1, .int xv)], [], (sh, I19, L, R))) (M := mr_277) rfl (show mcode 277 48 = some (48, .putfield 376, 3, 12, 53, 0, _) from rfl) (Or.inr (Or.inr (Or.inr (Or.inr (Or.inr (Or.inr (Or.inr (Or.inr (Or.inl ⟨_, _, _, rfl, by rw [eI19]; exact stf_I c94 (by decide) (by decide) (by decide), rfl⟩))))))))) ?_
      have hwI19 : wOK (mkT vV []) (wE sh R) (sh, I19, L, R) := by rw [eI19, eIh]; exact wOK_new hwI10 hm0
      have hfI19 : fresh (sh, I19, L, R) := by rw [eI19]; exact fresh_I hfh c94
      have v20 : I19 94 1 = td := by rw [eI19, up2_ne (by decide)]; exact v15
      have v21 : I19 94 35 = rv := by rw [eI19, up2_ne (by decide)]; exact v16
      have v22 : I19 94 52 = rv := by rw [eI19, up2_ne (by decide)]; exact v17
      have v23 : I19 125 (rv).toNatClampNeg = 0 := by rw [eI19, up2_ne (fun e => by cases e.1)]; exact v18
      have v24 : I19 94 53 = 0 := by rw [eI19]; exact up2_eq
      refine XW.fam (S' := (52, [(0, .ref 94), (1, .int xv)], [.ref 94], (sh, I19, L, R))) (M := mr_277) rfl (show mcode 277 51 = some (51, .aload_n 0, 1, 0, 0, 0, _) from rfl) (Or.inl ⟨.ref 94, rfl, rfl⟩) ?_
      refine XW.fam (S' := (53, [(0, .ref 94), (1, .int xv)], [.int (-1), .ref 94], (sh, I19, L, R))) (M := mr_277) rfl (show mcode 277 52 = some (52, .iconst (-1), 1, 0, 0, 0, _) from rfl) (Or.inl ⟨.int (-1), rfl, rfl⟩) ?_
      obtain ⟨I25, eI25⟩ : ∃ X, X = up2 I19 94 50 (-1) := ⟨_, rfl⟩
      refine XW.fam (S' := (56, [(0, .ref 94), (1, .int xv)], [], (sh, I25, L, R))) (M := mr_277) rfl (show mcode 277 53 = some (53, .putfield 370, 3, 12, 50, 0, _) from rfl) (Or.inr (Or.inr (Or.inr (Or.inr (Or.inr (Or.inr (Or.inr (Or.inr (Or.inl ⟨_, _, _, rfl, by rw [eI25]; exact stf_I c94 (by decide) (by decide) (by decide), rfl⟩))))))))) ?_
      have xbI25 := i32b ((-1) : Int32)
      unfold lo32 hi32 at xbI25
      have hwI25 : wOK (mkT vV []) (wE sh R) (sh, I25, L, R) := by rw [eI25]; exact wOK_u2 (q := 94) (k := 50) (x := (-1)) wE_put hwI19 rfl (by show ((-1) : Int) ≤ _; omega) (by show _ ≤ (240 : Int); omega)
      have hfI25 : fresh (sh, I25, L, R) := by rw [eI25]; exact fresh_I hfI19 c94
      have v26 : I25 94 1 = td := by rw [eI25, up2_ne (fun e => by cases e.2)]; exact v20
      have v27 : I25 94 35 = rv := by rw [eI25, up2_ne (fun e => by cases e.2)]; exact v21
      have v28 : I25 94 52 = rv := by rw [eI25, up2_ne (fun e => by cases e.2)]; exact v22
      have v29 : I25 125 (rv).toNatClampNeg = 0 := by rw [eI25, up2_ne (fun e => by cases e.1)]; exact v23
      have v30 : I25 94 53 = 0 := by rw [eI25, up2_ne (fun e => by cases e.2)]; exact v24
      have v31 : I25 94 50 = (-1) := by rw [eI25]; exact up2_eq
      refine XW.fam (S' := (57, [(0, .ref 94), (1, .int xv)], [.ref 94], (sh, I25, L, R))) (M := mr_277) rfl (show mcode 277 56 = some (56, .aload_n 0, 1, 0, 0, 0, _) from rfl) (Or.inl ⟨.ref 94, rfl, rfl⟩) ?_
      refine XW.fam (S' := (58, [(0, .ref 94), (1, .int xv)], [.int 0, .ref 94], (sh, I25, L, R))) (M := mr_277) rfl (show mcode 277 57 = some (57, .iconst 0, 1, 0, 0, 0, _) from rfl) (Or.inl ⟨.int 0, rfl, rfl⟩) ?_
      obtain ⟨I32, eI32⟩ : ∃ X, X = up2 I25 94 51 0 := ⟨_, rfl⟩
      refine XW.fam (S' := (61, [(0, .ref 94), (1, .int xv)], [], (sh, I32, L, R))) (M := mr_277) rfl (show mcode 277 58 = some (58, .putfield 379, 3, 12, 51, 0, _) from rfl) (Or.inr (Or.inr (Or.inr (Or.inr (Or.inr (Or.inr (Or.inr (Or.inr (Or.inl ⟨_, _, _, rfl, by rw [eI32]; exact stf_I c94 (by decide) (by decide) (by decide), rfl⟩))))))))) ?_
      have xbI32 := i32b (0 : Int32)
      unfold lo32 hi32 at xbI32
      have hwI32 : wOK (mkT vV []) (wE sh R) (sh, I32, L, R) := by rw [eI32]; exact wOK_u2 (q := 94) (k := 51) (x := 0) wE_put hwI25 rfl (by show (0 : Int) ≤ _; omega) (by show _ ≤ (8 : Int); omega)
      have hfI32 : fresh (sh, I32, L, R) := by rw [eI32]; exact fresh_I hfI25 c94
      have v33 : I32 94 1 = td := by rw [eI32, up2_ne (fun e => by cases e.2)]; exact v26
      have v34 : I32 94 35 = rv := by rw [eI32, up2_ne (fun e => by cases e.2)]; exact v27
      have v35 : I32 94 52 = rv := by rw [eI32, up2_ne (fun e => by cases e.2)]; exact v28
      have v36 : I32 125 (rv).toNatClampNeg = 0 := by rw [eI32, up2_ne (fun e => by cases e.1)]; exact v29
      have v37 : I32 94 53 = 0 := by rw [eI32, up2_ne (fun e => by cases e.2)]; exact v30
      have v38 : I32 94 50 = (-1) := by rw [eI32, up2_ne (fun e => by cases e.2)]; exact v31
      have v39 : I32 94 51 = 0 := by rw [eI32]; exact up2_eq
      refine XW.fam (S' := (62, [(0, .ref 94), (1, .int xv)], [.ref 94], (sh, I32, L, R))) (M := mr_277) rfl (show mcode 277 61 = some (61, .aload_n 0, 1, 0, 0, 0, _) from rfl) (Or.inl ⟨.ref 94, rfl, rfl⟩) ?_
      refine XW.fam (S' := (63, [(0, .ref 94), (1, .int xv)], [.int 0, .ref 94], (sh, I32, L, R))) (M := mr_277) rfl (show mcode 277 62 = some (62, .iconst 0, 1, 0, 0, 0, _) from rfl) (Or.inl ⟨.int 0, rfl, rfl⟩) ?_
      obtain ⟨I40, eI40⟩ : ∃ X, X = up2 I32 94 47 0 := ⟨_, rfl⟩
      refine XW.fam (S' := (66, [(0, .ref 94), (1, .int xv)], [], (sh, I40, L, R))) (M := mr_277) rfl (show mcode 277 63 = some (63, .putfield 348, 3, 12, 47, 0, _) from rfl) (Or.inr (Or.inr (Or.inr (Or.inr (Or.inr (Or.inr (Or.inr (Or.inr (Or.inl ⟨_, _, _, rfl, by rw [eI40]; exact stf_I c94 (by decide) (by decide) (by decide), rfl⟩))))))))) ?_
      have xbI40 := i32b (0 : Int32)
      unfold lo32 hi32 at xbI40
      have hwI40 : wOK (mkT vV []) (wE sh R) (sh, I40, L, R) := by rw [eI40]; exact wOK_u2 (q := 94) (k := 47) (x := 0) wE_put hwI32 rfl (by show (0 : Int) ≤ _; omega) (by show _ ≤ (240 : Int); omega)
      have hfI40 : fresh (sh, I40, L, R) := by rw [eI40]; exact fresh_I hfI32 c94
      have v41 : I40 94 1 = td := by rw [eI40, up2_ne (fun e => by cases e.2)]; exact v33
      have v42 : I40 94 35 = rv := by rw [eI40, up2_ne (fun e => by cases e.2)]; exact v34
      have v43 : I40 94 52 = rv := by rw [eI40, up2_ne (fun e => by cases e.2)]; exact v35
      have v44 : I40 125 (rv).toNatClampNeg = 0 := by rw [eI40, up2_ne (fun e => by cases e.1)]; exact v36
      have v45 : I40 94 53 = 0 := by rw [eI40, up2_ne (fun e => by cases e.2)]; exact v37
      have v46 : I40 94 50 = (-1) := by rw [eI40, up2_ne (fun e => by cases e.2)]; exact v38
      have v47 : I40 94 51 = 0 := by rw [eI40, up2_ne (fun e => by cases e.2)]; exact v39
      have v48 : I40 94 47 = 0 := by rw [eI40]; exact up2_eq
      refine XW.fam (S' := (67, [(0, .ref 94), (1, .int xv)], [.ref 94], (sh, I40, L, R))) (M := mr_277) rfl (show mcode 277 66 = some (66, .aload_n 0, 1, 0, 0, 0, _) from rfl) (Or.inl ⟨.ref 94, rfl, rfl⟩) ?_
      refine XW.call (d' := d + 2) (mc' := 0) (ms' := 0) (av := [.ref 94]) (rest := []) (M := mr_277) (Ma := mr_278) rfl (show mcode 277 67 = some (67, .invokevirtual 385, 3, 278, 0, 0, _) from rfl) rfl (by decide) (by decide) ⟨rfl, 94, _, rfl, c94⟩ rfl rfl (show 0 ≤ 8 by decide) (tc_nxt (d := d) (u := 0) hwI40 hfI40 (by rw [v48]; rfl) (Nat.zero_le _)) (by omega) (Nat.zero_le _) (Nat.zero_le _) (fun rQ49 wQ49 Q49 => ?_)
      obtain ⟨hrQ49, hfQ49, hwQ49, hkQ49, hmQ49⟩ := Q49
      subst hrQ49
      obtain ⟨shQ49, IQ49, LQ49, RQ49⟩ := wQ49
      obtain rfl : sh = shQ49 := hwQ49.2.2.2.1.symm
      obtain rfl : R = RQ49 := hwQ49.2.2.2.2.1.symm
      refine XW.fam (S' := (71, [(0, .ref 94), (1, .int xv)], [.ref 94], (sh, IQ49, LQ49, R))) (M := mr_277) rfl (show mcode 277 70 = some (70, .aload_n 0, 1, 0, 0, 0, _) from rfl) (Or.inl ⟨.ref 94, rfl, rfl⟩) ?_
      have j122 : ∀ k, I40 122 k = I 122 k := fun k => by rw [eI40, up2_ne (fun e => by cases e.1), eI32, up2_ne (fun e => by cases e.1), eI25, up2_ne (fun e => by cases e.1), eI19, up2_ne (fun e => by cases e.1), eIh, up2_ne (fun e => by cases e.1), up2_ne (fun e => by cases e.1), up2_ne (fun e => by cases e.1), up2_ne (fun e => by cases e.1), eI10, up2_ne (fun e => by cases e.1), eI5, up2_ne (fun e => by cases e.1), eIg, up2_ne (fun e => by cases e.1)]
      have j34 : I40 94 34 = I 94 34 := by rw [eI40, up2_ne (by decide), eI32, up2_ne (by decide), eI25, up2_ne (by decide), eI19, up2_ne (by decide), eIh, up2_ne (by decide), up2_ne (by decide), up2_ne (by decide), up2_ne (by decide), eI10, up2_ne (fun e => by cases e.1), eI5, up2_ne (by decide), eIg, up2_ne (by decide)]
      have j35 : I40 94 35 = I 94 35 := by rw [eI40, up2_ne (by decide), eI32, up2_ne (by decide), eI25, up2_ne (by decide), eI19, up2_ne (by decide), eIh, up2_ne (by decide), up2_ne (by decide), up2_ne (by decide), up2_ne (by decide), eI10, up2_ne (fun e => by cases e.1), eI5, up2_ne (by decide), eIg, up2_ne (by decide)]
      have j52 : I40 94 52 = rv := by rw [eI40, up2_ne (by decide), eI32, up2_ne (by decide), eI25, up2_ne (by decide), eI19, up2_ne (by decide), eIh, up2_ne (by decide), up2_ne (by decide), up2_ne (by decide), up2_ne (by decide), eI10, up2_ne (fun e => by cases e.1), eI5, up2_eq]
      have j53 : I40 94 53 = 0 := by rw [eI40, up2_ne (by decide), eI32, up2_ne (by decide), eI25, up2_ne (by decide), eI19, up2_eq]
      have j50 : I40 94 50 = (-1) := by rw [eI40, up2_ne (by decide), eI32, up2_ne (by decide), eI25, up2_eq]
      have j51 : I40 94 51 = 0 := by rw [eI40, up2_ne (by decide), eI32, up2_eq]
      have j200 : I40 94 200 = 0 := by rw [eI40, up2_ne (by decide), eI32, up2_ne (by decide), eI25, up2_ne (by decide), eI19, up2_ne (by decide), eIh, up2_ne (by decide), up2_ne (by decide), up2_ne (by decide), up2_eq]
      have j201 : I40 94 201 = 1 := by rw [eI40, up2_ne (by decide), eI32, up2_ne (by decide), eI25, up2_ne (by decide), eI19, up2_ne (by decide), eIh, up2_ne (by decide), up2_ne (by decide), up2_eq]
      have j125 : I40 125 (rv).toNatClampNeg = 0 := by rw [eI40, up2_ne (fun e => by cases e.1), eI32, up2_ne (fun e => by cases e.1), eI25, up2_ne (fun e => by cases e.1), eI19, up2_ne (fun e => by cases e.1), eIh, up2_ne (fun e => by cases e.1), up2_ne (fun e => by cases e.1), up2_ne (fun e => by cases e.1), up2_ne (fun e => by cases e.1), eI10, up2_eq]
      have j123 : ∀ k, I40 123 k = I 123 k := fun k => by rw [eI40, up2_ne (fun e => by cases e.1), eI32, up2_ne (fun e => by cases e.1), eI25, up2_ne (fun e => by cases e.1), eI19, up2_ne (fun e => by cases e.1), eIh, up2_ne (fun e => by cases e.1), up2_ne (fun e => by cases e.1), up2_ne (fun e => by cases e.1), up2_ne (fun e => by cases e.1), eI10, up2_ne (fun e => by cases e.1), eI5, up2_ne (fun e => by cases e.1), eIg, up2_ne (fun e => by cases e.1)]
      have j124 : ∀ k, I40 124 k = I 124 k := fun k => by rw [eI40, up2_ne (fun e => by cases e.1), eI32, up2_ne (fun e => by cases e.1), eI25, up2_ne (fun e => by cases e.1), eI19, up2_ne (fun e => by cases e.1), eIh, up2_ne (fun e => by cases e.1), up2_ne (fun e => by cases e.1), up2_ne (fun e => by cases e.1), up2_ne (fun e => by cases e.1), eI10, up2_ne (fun e => by cases e.1), eI5, up2_ne (fun e => by cases e.1), eIg, up2_ne (fun e => by cases e.1)]
      obtain ⟨b, eb⟩ : ∃ X, X = (fun k => (I 122 k).toInt) := ⟨_, rfl⟩
      obtain ⟨n, en⟩ : ∃ X, X = (I 94 34).toInt.toNat := ⟨_, rfl⟩
      have eB : (fun k => (I40 122 k).toInt) = b := by rw [eb]; exact funext (fun k => by rw [j122 k])
      have eN : (I40 94 34).toInt.toNat = n := by rw [en, j34]
      have hb : ∀ k, -128 ≤ b k ∧ b k ≤ 127 := by rw [eb]; exact fun k => hw.2.2.1 122 k
      have hn0 : 0 ≤ (I 94 34).toInt ∧ (I 94 34).toInt ≤ 240 := hw.2.2.1 94 34
      have hJ : mBs I40 b n n := ⟨⟨fun k => congrFun eB k, by rw [j34, en]; omega⟩, ⟨tN_ex hb, by rw [en]; omega⟩, by rw [j35, j52, erv]; exact Int.le_refl _, hb⟩
      rw [eB, eN] at hmQ49
      have hk7 : ∀ q k, inm mdNx q k = false → IQ49 q k = I40 q k := hkQ49
      have hQ1 : QL sh R I40 b n n 0 (true, 0) (sh, IQ49, LQ49, R) := by
        refine ⟨hfQ49, hwQ49, fun q k z => hk7 q k (inm_NM (inm_MR z)), ⟨0, ⟨?_, Nat.zero_le _⟩, fun _ => ⟨hmQ49, ?_, ?_, ?_, ?_, Nat.zero_le _⟩, fun e => (by cases e)⟩, fun _ => ?_⟩
        · show (IQ49 94 53).toInt + 0 ≤ ((0 : Nat) : Int)
          rw [hk7 94 53 rfl, j53]
          decide
        · show (IQ49 94 50).toInt = -1
          rw [hk7 94 50 rfl, j50]
          decide
        · show (IQ49 94 51).toInt = ((0 : Nat) : Int)
          rw [hk7 94 51 rfl, j51]
          decide
        · show (IQ49 94 201).toInt = 1
          rw [hk7 94 201 rfl, j201]
          decide
        · show (IQ49 94 200).toInt = ((0 : Nat) : Int)
          rw [hk7 94 200 rfl, j200]
          decide
        · have en2 : nv I40 94 52 = (rv).toNatClampNeg := by unfold nv; rw [j52]; rfl
          show 2 * (IQ49 125 (nv I40 94 52)).toInt ≤ ((0 : Nat) : Int) + 0
          rw [hk7 125 _ rfl, en2, j125]
          decide
      refine XW.call (d' := (d + 4 + (6 * (8 - 0) + 7))) (mc' := 0) (ms' := 0) (av := [.ref 94]) (rest := []) (M := mr_277) (Ma := mr_281) rfl (show mcode 277 71 = some (71, .invokevirtual 447, 3, 281, 0, 0, _) from rfl) rfl (by decide) (by decide) ⟨rfl, 94, _, rfl, c94⟩ rfl rfl (show 0 ≤ 8 by decide) (tc_lineM (d := d) hJ hQ1) (by omega) (Nat.zero_le _) (Nat.zero_le _) (fun rQ50 wQ50 Q50 => ?_)
      obtain ⟨hrQ50, hQQ50⟩ := Q50
      subst hrQ50
      obtain ⟨shQ50, IQ50, LQ50, RQ50⟩ := wQ50
      obtain rfl : sh = shQ50 := hQQ50.2.1.2.2.2.1.symm
      obtain rfl : R = RQ50 := hQQ50.2.1.2.2.2.2.1.symm
      refine XW.sub (ls' := [(0, .ref 94), (1, .int xv)]) (List.forall_mem_cons.mpr ⟨List.mem_of_getElem? (i := 0) rfl, (List.forall_mem_cons.mpr ⟨List.mem_of_getElem? (i := 1) rfl, (fun _ h => absurd h List.not_mem_nil)⟩)⟩) ?_
      have hgo := gLn_ok (F := 3000) (i := 0) hJ.2.1.1 (Nat.zero_le _)
      refine ru_lp (d := d) hJ 299 (gLn (tK b n) 3000 0) hQQ50 hgo.2.1 (by have := hJ.2.1.2; omega) (fun {I9 L9} hF => ?_)
      have hF : QF sh R I40 b n n (gLs (tK b n) 3000 300 0) (sh, I9, L9, R) := hF
      obtain ⟨hf9, hw9, hk9, h9, hrs9⟩ := hF
      have hk9 : ∀ q k, inm mdRl q k = false → I9 q k = I40 q k := hk9
      have k1 : I9 94 1 = td := by rw [hk9 94 1 rfl, v41]
      have k35 : I9 94 35 = rv := by rw [hk9 94 35 rfl, j35]; exact erv
      obtain ⟨fl, efl⟩ : ∃ z : Int32, I9 94 50 = z := ⟨_, rfl⟩
      have keep : ∀ q k, inm mdRu q k = false → I9 q k = I q k := fun q k z => by rw [hk9 q k (inm_Ru z), eI40, up2_ne (fun e => by rw [e.1, e.2] at z; cases z), eI32, up2_ne (fun e => by rw [e.1, e.2] at z; cases z), eI25, up2_ne (fun e => by rw [e.1, e.2] at z; cases z), eI19, up2_ne (fun e => by rw [e.1, e.2] at z; cases z), eIh, up2_ne (fun e => by rw [e.1, e.2] at z; cases z), up2_ne (fun e => by rw [e.1, e.2] at z; cases z), up2_ne (fun e => by rw [e.1, e.2] at z; cases z), up2_ne (fun e => by rw [e.1, e.2] at z; cases z), eI10, up2_ne (fun e => by rw [e.1] at z; cases z), eI5, up2_ne (fun e => by rw [e.1, e.2] at z; cases z), eIg, up2_ne (fun e => by rw [e.1, e.2] at z; cases z)]
      have k123 : ∀ k, I9 123 k = I 123 k := fun k => (hk9 123 k rfl).trans (j123 k)
      have k124 : ∀ k, I9 124 k = I 124 k := fun k => (hk9 124 k rfl).trans (j124 k)
      cases e : (gLs (tK b n) 3000 300 0).1 with
      | true =>
        have hs9 := hrs9.2.1 e
        have hfl : fl.toInt = -1 := by rw [← efl]; exact hs9.2.1
        have eG : gFl b n = -1 := if_pos e
        have k52 : I9 94 52 = rv := by rw [hk9 94 52 rfl, j52]
        obtain ⟨f201, e201⟩ : ∃ z : Int32, I9 94 201 = z := ⟨_, rfl⟩
        have h201 : f201.toInt = 1 := by rw [← e201]; exact hs9.2.2.2.1
        refine XW.fam (S' := (120, [(0, .ref 94), (1, .int xv)], [.ref 94], (sh, I9, L9, R))) (M := mr_277) rfl (show mcode 277 119 = some (119, .aload_n 0, 1, 0, 0, 0, _) from rfl) (Or.inl ⟨.ref 94, rfl, rfl⟩) ?_
        refine XW.fam (S' := (121, [(0, .ref 94), (1, .int xv)], [.int 0, .ref 94], (sh, I9, L9, R))) (M := mr_277) rfl (show mcode 277 120 = some (120, .iconst 0, 1, 0, 0, 0, _) from rfl) (Or.inl ⟨.int 0, rfl, rfl⟩) ?_
        obtain ⟨I51, eI51⟩ : ∃ X, X = up2 I9 94 34 0 := ⟨_, rfl⟩
        refine XW.fam (S' := (124, [(0, .ref 94), (1, .int xv)], [], (sh, I51, L9, R))) (M := mr_277) rfl (show mcode 277 121 = some (121, .putfield 341, 3, 12, 34, 0, _) from rfl) (Or.inr (Or.inr (Or.inr (Or.inr (Or.inr (Or.inr (Or.inr (Or.inr (Or.inl ⟨_, _, _, rfl, by rw [eI51]; exact stf_I c94 (by decide) (by decide) (by decide), rfl⟩))))))))) ?_
        have xbI51 := i32b (0 : Int32)
        unfold lo32 hi32 at xbI51
        have hwI51 : wOK (mkT vV []) (wE sh R) (sh, I51, L9, R) := by rw [eI51]; exact wOK_u2 (q := 94) (k := 34) (x := 0) wE_put hw9 rfl (by show (0 : Int) ≤ _; omega) (by show _ ≤ (240 : Int); omega)
        have hfI51 : fresh (sh, I51, L9, R) := by rw [eI51]; exact fresh_I hf9 c94
        have v52 : I51 94 1 = td := by rw [eI51, up2_ne (fun e => by cases e.2)]; exact k1
        have v53 : I51 94 35 = rv := by rw [eI51, up2_ne (fun e => by cases e.2)]; exact k35
        have v54 : I51 94 50 = fl := by rw [eI51, up2_ne (fun e => by cases e.2)]; exact efl
        have v55 : I51 94 52 = rv := by rw [eI51, up2_ne (fun e => by cases e.2)]; exact k52
        have v56 : I51 94 201 = f201 := by rw [eI51, up2_ne (fun e => by cases e.2)]; exact e201
        have v57 : I51 94 34 = 0 := by rw [eI51]; exact up2_eq
        refine XW.fam (S' := (125, [(0, .ref 94), (1, .int xv)], [.ref 94], (sh, I51, L9, R))) (M := mr_277) rfl (show mcode 277 124 = some (124, .aload_n 0, 1, 0, 0, 0, _) from rfl) (Or.inl ⟨.ref 94, rfl, rfl⟩) ?_
        refine XW.fam (S' := (128, [(0, .ref 94), (1, .int xv)], [.int (I51 94 50)], (sh, I51, L9, R))) (M := mr_277) rfl (show mcode 277 125 = some (125, .getfield 370, 3, 12, 50, 0, _) from rfl) (Or.inr (Or.inr (Or.inr (Or.inr (Or.inr (Or.inr (Or.inr (Or.inl ⟨_, _, rfl, fl_ldI c94 (by decide) (by decide), rfl⟩)))))))) ?_
        rw [v54]
        have k58 : bcmp .lt fl 0 = true := bcT (c := .lt) (a := (fl).toInt) (b := 0) rfl (by decide) (by show (fl).toInt < 0; omega)
        refine XW.fam (S' := (139, [(0, .ref 94), (1, .int xv)], [], (sh, I51, L9, R))) (M := mr_277) rfl (show mcode 277 128 = some (128, .ifCond .lt 11, 3, 139, 0, 0, _) from rfl) (Or.inr (Or.inl ⟨139, [], by simp [brn, k58], rfl⟩)) ?_
        refine XW.fam (S' := (140, [(0, .ref 94), (1, .int xv)], [.ref 94], (sh, I51, L9, R))) (M := mr_277) rfl (show mcode 277 139 = some (139, .aload_n 0, 1, 0, 0, 0, _) from rfl) (Or.inl ⟨.ref 94, rfl, rfl⟩) ?_
        refine XW.fam (S' := (143, [(0, .ref 94), (1, .int xv)], [.ref 123], (sh, I51, L9, R))) (M := mr_277) rfl (show mcode 277 140 = some (140, .getfield 100, 3, 12, 36, 0, _) from rfl) (Or.inr (Or.inr (Or.inr (Or.inr (Or.inr (Or.inr (Or.inr (Or.inl ⟨_, _, rfl, fl_ld c94 r94_36 (by decide) (by decide), rfl⟩)))))))) ?_
        refine XW.fam (S' := (144, [(0, .ref 94), (1, .int xv)], [.ref 94, .ref 123], (sh, I51, L9, R))) (M := mr_277) rfl (show mcode 277 143 = some (143, .aload_n 0, 1, 0, 0, 0, _) from rfl) (Or.inl ⟨.ref 94, rfl, rfl⟩) ?_
        refine XW.fam (S' := (147, [(0, .ref 94), (1, .int xv)], [.int (I51 94 35), .ref 123], (sh, I51, L9, R))) (M := mr_277) rfl (show mcode 277 144 = some (144, .getfield 444, 3, 12, 35, 0, _) from rfl) (Or.inr (Or.inr (Or.inr (Or.inr (Or.inr (Or.inr (Or.inr (Or.inl ⟨_, _, rfl, fl_ldI c94 (by decide) (by decide), rfl⟩)))))))) ?_
        rw [v53]
        refine XW.fam (S' := (148, [(0, .ref 94), (1, .int xv)], [.ref 94, .int rv, .ref 123], (sh, I51, L9, R))) (M := mr_277) rfl (show mcode 277 147 = some (147, .aload_n 0, 1, 0, 0, 0, _) from rfl) (Or.inl ⟨.ref 94, rfl, rfl⟩) ?_
        refine XW.fam (S' := (151, [(0, .ref 94), (1, .int xv)], [.int (I51 94 1), .int rv, .ref 123], (sh, I51, L9, R))) (M := mr_277) rfl (show mcode 277 148 = some (148, .getfield 303, 3, 12, 1, 0, _) from rfl) (Or.inr (Or.inr (Or.inr (Or.inr (Or.inr (Or.inr (Or.inr (Or.inl ⟨_, _, rfl, fl_ldI c94 (by decide) (by decide), rfl⟩)))))))) ?_
        rw [v52]
        have hin59 : inR rv 20 = true := inR_of (by omega) (by omega)
        obtain ⟨I60, eI60⟩ : ∃ X, X = up2 I51 123 (rv).toNatClampNeg td := ⟨_, rfl⟩
        refine XW.fam (S' := (152, [(0, .ref 94), (1, .int xv)], [], (sh, I60, L9, R))) (M := mr_277) rfl (show mcode 277 151 = some (151, .iastore, 1, 0, 0, 0, _) from rfl) (Or.inr (Or.inr (Or.inr (Or.inl ⟨_, _, by rw [eI60]; exact sta_i c123 hin59, rfl⟩)))) ?_
        have xbI60 := i32b (td : Int32)
        unfold lo32 hi32 at xbI60
        have hwI60 : wOK (mkT vV []) (wE sh R) (sh, I60, L9, R) := by rw [eI60]; exact wOK_u2 (q := 123) (k := (rv).toNatClampNeg) (x := td) wE_put hwI51 rfl (by show (0 : Int) ≤ _; omega) (by show _ ≤ (700 : Int); omega)
        have hfI60 : fresh (sh, I60, L9, R) := by rw [eI60]; exact fresh_I hfI51 c123
        have v61 : I60 94 1 = td := by rw [eI60, up2_ne (fun e => by cases e.1)]; exact v52
        have v62 : I60 94 35 = rv := by rw [eI60, up2_ne (fun e => by cases e.1)]; exact v53
        have v63 : I60 94 50 = fl := by rw [eI60, up2_ne (fun e => by cases e.1)]; exact v54
        have v64 : I60 94 52 = rv := by rw [eI60, up2_ne (fun e => by cases e.1)]; exact v55
        have v65 : I60 94 201 = f201 := by rw [eI60, up2_ne (fun e => by cases e.1)]; exact v56
        have v66 : I60 94 34 = 0 := by rw [eI60, up2_ne (fun e => by cases e.1)]; exact v57
        have v67 : I60 123 (rv).toNatClampNeg = td := by rw [eI60]; exact up2_eq
        refine XW.fam (S' := (153, [(0, .ref 94), (1, .int xv)], [.ref 94], (sh, I60, L9, R))) (M := mr_277) rfl (show mcode 277 152 = some (152, .aload_n 0, 1, 0, 0, 0, _) from rfl) (Or.inl ⟨.ref 94, rfl, rfl⟩) ?_
        refine XW.fam (S' := (156, [(0, .ref 94), (1, .int xv)], [.ref 124], (sh, I60, L9, R))) (M := mr_277) rfl (show mcode 277 153 = some (153, .getfield 103, 3, 12, 37, 0, _) from rfl) (Or.inr (Or.inr (Or.inr (Or.inr (Or.inr (Or.inr (Or.inr (Or.inl ⟨_, _, rfl, fl_ld c94 r94_37 (by decide) (by decide), rfl⟩)))))))) ?_
        refine XW.fam (S' := (157, [(0, .ref 94), (1, .int xv)], [.ref 94, .ref 124], (sh, I60, L9, R))) (M := mr_277) rfl (show mcode 277 156 = some (156, .aload_n 0, 1, 0, 0, 0, _) from rfl) (Or.inl ⟨.ref 94, rfl, rfl⟩) ?_
        refine XW.fam (S' := (160, [(0, .ref 94), (1, .int xv)], [.int (I60 94 35), .ref 124], (sh, I60, L9, R))) (M := mr_277) rfl (show mcode 277 157 = some (157, .getfield 444, 3, 12, 35, 0, _) from rfl) (Or.inr (Or.inr (Or.inr (Or.inr (Or.inr (Or.inr (Or.inr (Or.inl ⟨_, _, rfl, fl_ldI c94 (by decide) (by decide), rfl⟩)))))))) ?_
        rw [v62]
        refine XW.fam (S' := (161, [(0, .ref 94), (1, .int xv)], [.int xv, .int rv, .ref 124], (sh, I60, L9, R))) (M := mr_277) rfl (show mcode 277 160 = some (160, .iload_n 1, 1, 0, 0, 0, _) from rfl) (Or.inl ⟨.int xv, rfl, rfl⟩) ?_
        have hin68 : inR rv 20 = true := inR_of (by omega) (by omega)
        obtain ⟨I69, eI69⟩ : ∃ X, X = up2 I60 124 (rv).toNatClampNeg xv := ⟨_, rfl⟩
        refine XW.fam (S' := (162, [(0, .ref 94), (1, .int xv)], [], (sh, I69, L9, R))) (M := mr_277) rfl (show mcode 277 161 = some (161, .iastore, 1, 0, 0, 0, _) from rfl) (Or.inr (Or.inr (Or.inr (Or.inl ⟨_, _, by rw [eI69]; exact sta_i c124 hin68, rfl⟩)))) ?_
        have xbI69 := i32b (xv : Int32)
        unfold lo32 hi32 at xbI69
        have hwI69 : wOK (mkT vV []) (wE sh R) (sh, I69, L9, R) := by rw [eI69]; exact wOK_u2 (q := 124) (k := (rv).toNatClampNeg) (x := xv) wE_put hwI60 rfl (by show (0 : Int) ≤ _; omega) (by show _ ≤ (700 : Int); omega)
        have hfI69 : fresh (sh, I69, L9, R) := by rw [eI69]; exact fresh_I hfI60 c124
        have v70 : I69 94 1 = td := by rw [eI69, up2_ne (fun e => by cases e.1)]; exact v61
        have v71 : I69 94 35 = rv := by rw [eI69, up2_ne (fun e => by cases e.1)]; exact v62
        have v72 : I69 94 50 = fl := by rw [eI69, up2_ne (fun e => by cases e.1)]; exact v63
        have v73 : I69 94 52 = rv := by rw [eI69, up2_ne (fun e => by cases e.1)]; exact v64
        have v74 : I69 94 201 = f201 := by rw [eI69, up2_ne (fun e => by cases e.1)]; exact v65
        have v75 : I69 94 34 = 0 := by rw [eI69, up2_ne (fun e => by cases e.1)]; exact v66
        have v76 : I69 123 (rv).toNatClampNeg = td := by rw [eI69, up2_ne (fun e => by cases e.1)]; exact v67
        have v77 : I69 124 (rv).toNatClampNeg = xv := by rw [eI69]; exact up2_eq
        have xi35 := inc32 (m := rv) (by omega) (by omega)
        refine XW.fam (S' := (163, [(0, .ref 94), (1, .int xv)], [.ref 94], (sh, I69, L9, R))) (M := mr_277) rfl (show mcode 277 162 = some (162, .aload_n 0, 1, 0, 0, 0, _) from rfl) (Or.inl ⟨.ref 94, rfl, rfl⟩) ?_
        refine XW.fam (S' := (164, [(0, .ref 94), (1, .int xv)], [.ref 94, .ref 94], (sh, I69, L9, R))) (M := mr_277) rfl (show mcode 277 163 = some (163, .dup, 1, 0, 0, 0, _) from rfl) (Or.inr (Or.inr (Or.inr (Or.inr (Or.inr (Or.inl ⟨_, rfl, rfl⟩)))))) ?_
        refine XW.fam (S' := (167, [(0, .ref 94), (1, .int xv)], [.int (I69 94 35), .ref 94], (sh, I69, L9, R))) (M := mr_277) rfl (show mcode 277 164 = some (164, .getfield 444, 3, 12, 35, 0, _) from rfl) (Or.inr (Or.inr (Or.inr (Or.inr (Or.inr (Or.inr (Or.inr (Or.inl ⟨_, _, rfl, fl_ldI c94 (by decide) (by decide), rfl⟩)))))))) ?_
        rw [v71]
        refine XW.fam (S' := (168, [(0, .ref 94), (1, .int xv)], [.int 1, .int rv, .ref 94], (sh, I69, L9, R))) (M := mr_277) rfl (show mcode 277 167 = some (167, .iconst 1, 1, 0, 0, 0, _) from rfl) (Or.inl ⟨.int 1, rfl, rfl⟩) ?_
        refine XW.fam (S' := (169, [(0, .ref 94), (1, .int xv)], [.int (rv + 1), .ref 94], (sh, I69, L9, R))) (M := mr_277) rfl (show mcode 277 168 = some (168, .iadd, 1, 0, 0, 0, _) from rfl) (Or.inr (Or.inr (Or.inr (Or.inr (Or.inr (Or.inl ⟨_, rfl, rfl⟩)))))) ?_
        obtain ⟨I78, eI78⟩ : ∃ X, X = up2 I69 94 35 (rv + 1) := ⟨_, rfl⟩
        refine XW.fam (S' := (172, [(0, .ref 94), (1, .int xv)], [], (sh, I78, L9, R))) (M := mr_277) rfl (show mcode 277 169 = some (169, .putfield 444, 3, 12, 35, 0, _) from rfl) (Or.inr (Or.inr (Or.inr (Or.inr (Or.inr (Or.inr (Or.inr (Or.inr (Or.inl ⟨_, _, _, rfl, by rw [eI78]; exact stf_I c94 (by decide) (by decide) (by decide), rfl⟩))))))))) ?_
        have hwI78 : wOK (mkT vV []) (wE sh R) (sh, I78, L9, R) := by rw [eI78]; exact wOK_35 hwI69 (by unfold nv; rw [v73, v71]) (by rw [v74]; exact h201) (by rw [v71]; omega) (by omega)
        have hfI78 : fresh (sh, I78, L9, R) := by rw [eI78]; exact fresh_I hfI69 c94
        have v79 : I78 94 1 = td := by rw [eI78, up2_ne (by decide)]; exact v70
        have v81 : I78 94 50 = fl := by rw [eI78, up2_ne (by decide)]; exact v72
        have v82 : I78 94 52 = rv := by rw [eI78, up2_ne (by decide)]; exact v73
        have v83 : I78 94 201 = f201 := by rw [eI78, up2_ne (by decide)]; exact v74
        have v84 : I78 94 34 = 0 := by rw [eI78, up2_ne (by decide)]; exact v75
        have v85 : I78 123 (rv).toNatClampNeg = td := by rw [eI78, up2_ne (fun e => by cases e.1)]; exact v76
        have v86 : I78 124 (rv).toNatClampNeg = xv := by rw [eI78, up2_ne (fun e => by cases e.1)]; exact v77
        have v87 : I78 94 35 = (rv + 1) := by rw [eI78]; exact up2_eq
        refine XW.fam (S' := (173, [(0, .ref 94), (1, .int xv)], [.ref 94], (sh, I78, L9, R))) (M := mr_277) rfl (show mcode 277 172 = some (172, .aload_n 0, 1, 0, 0, 0, _) from rfl) (Or.inl ⟨.ref 94, rfl, rfl⟩) ?_
        refine XW.fam (S' := (176, [(0, .ref 94), (1, .int xv)], [.int (I78 94 35)], (sh, I78, L9, R))) (M := mr_277) rfl (show mcode 277 173 = some (173, .getfield 444, 3, 12, 35, 0, _) from rfl) (Or.inr (Or.inr (Or.inr (Or.inr (Or.inr (Or.inr (Or.inr (Or.inl ⟨_, _, rfl, fl_ldI c94 (by decide) (by decide), rfl⟩)))))))) ?_
        rw [v87]
        refine XW.fam (S' := (177, [(0, .ref 94), (1, .int xv)], [.int 1, .int (rv + 1)], (sh, I78, L9, R))) (M := mr_277) rfl (show mcode 277 176 = some (176, .iconst 1, 1, 0, 0, 0, _) from rfl) (Or.inl ⟨.int 1, rfl, rfl⟩) ?_
        refine XW.fam (S' := (178, [(0, .ref 94), (1, .int xv)], [.int ((rv + 1) - 1)], (sh, I78, L9, R))) (M := mr_277) rfl (show mcode 277 177 = some (177, .isub, 1, 0, 0, 0, _) from rfl) (Or.inr (Or.inr (Or.inr (Or.inr (Or.inr (Or.inl ⟨_, rfl, rfl⟩)))))) ?_
        refine XW.ret (r := some (.int ((rv + 1) - 1))) ⟨⟨.int, rfl, rfl⟩, by decide +kernel⟩ ?_
        rw [← eb, ← en]
        have ec : (ruC td.toInt xv.toInt rv.toInt (gFl b n)) = 3 := by
          unfold ruC
          rw [if_pos (by omega), if_neg (by omega), if_pos (by exact eG)]
        rw [ec]
        refine ⟨⟨⟨_, rfl, ?_⟩, fun q k z => ?_, ?_, ?_, fun k => ?_, fun k => ?_⟩, hfI78, hwI78⟩
        · show _ = (I 94 35).toInt
          rw [erv]
          have xd := difS (a := rv + 1) (b := 1) (by omega) (by omega)
          omega
        · show I78 q k = I q k
          rw [eI78, up2_ne (fun e => by rw [e.1, e.2] at z; cases z), eI69, up2_ne (fun e => by rw [e.1] at z; cases z), eI60, up2_ne (fun e => by rw [e.1] at z; cases z), eI51, up2_ne (fun e => by rw [e.1, e.2] at z; cases z)]
          exact keep q k z
        · exact congrArg Int32.toInt (show I78 94 34 = 0 by rw [eI78, up2_ne (by decide), eI69, up2_ne (fun e => by cases e.1), eI60, up2_ne (fun e => by cases e.1), eI51, up2_eq])
        · show (I78 94 35).toInt = (I 94 35).toInt + 1
          rw [eI78, up2_eq, erv]
          exact xi35
        · show (I78 123 k).toInt = ruW 3 (I 94 35).toInt (I 94 1).toInt (fun k => (I 123 k).toInt) k
          rw [eI78, up2_ne (fun e => by cases e.1), eI69, up2_ne (fun e => by cases e.1)]
          by_cases a : k = (rv).toNatClampNeg
          · rw [ruW_y (by rw [erv, a]; have z : (((rv).toNatClampNeg : Nat) : Int) = rv.toInt := Int.toNat_of_nonneg (by omega); exact z), eI60, a, up2_eq, etd]
          · rw [ruW_k (fun z => a (by rw [erv] at z; show k = rv.toInt.toNat; omega)), eI60, up2_ne (fun e => a e.2), eI51, up2_ne (fun e => by cases e.1), k123 k]
        · show (I78 124 k).toInt = ruW 3 (I 94 35).toInt xv.toInt (fun k => (I 124 k).toInt) k
          rw [eI78, up2_ne (fun e => by cases e.1)]
          by_cases a : k = (rv).toNatClampNeg
          · rw [ruW_y (by rw [erv, a]; have z : (((rv).toNatClampNeg : Nat) : Int) = rv.toInt := Int.toNat_of_nonneg (by omega); exact z), eI69, a, up2_eq]
          · rw [ruW_k (fun z => a (by rw [erv] at z; show k = rv.toInt.toNat; omega)), eI69, up2_ne (fun e => a e.2), eI60, up2_ne (fun e => by cases e.1), eI51, up2_ne (fun e => by cases e.1), k124 k]
      | false =>
        have hfl : fl.toInt = (tS b n (gLs (tK b n) 3000 300 0).2 : Int) := by rw [← efl]; exact (hrs9.2.2 e).1
        have eG : gFl b n = (tS b n (gLs (tK b n) 3000 300 0).2 : Int) := if_neg (by rw [e]; exact Bool.false_ne_true)
        have hSl := tS_le (b := b) (n := n) (i := (gLs (tK b n) 3000 300 0).2)
        have hn2 := hJ.2.1.2
        refine XW.fam (S' := (120, [(0, .ref 94), (1, .int xv)], [.ref 94], (sh, I9, L9, R))) (M := mr_277) rfl (show mcode 277 119 = some (119, .aload_n 0, 1, 0, 0, 0, _) from rfl) (Or.inl ⟨.ref 94, rfl, rfl⟩) ?_
        refine XW.fam (S' := (121, [(0, .ref 94), (1, .int xv)], [.int 0, .ref 94], (sh, I9, L9, R))) (M := mr_277) rfl (show mcode 277 120 = some (120, .iconst 0, 1, 0, 0, 0, _) from rfl) (Or.inl ⟨.int 0, rfl, rfl⟩) ?_
        obtain ⟨I88, eI88⟩ : ∃ X, X = up2 I9 94 34 0 := ⟨_, rfl⟩
        refine XW.fam (S' := (124, [(0, .ref 94), (1, .int xv)], [], (sh, I88, L9, R))) (M := mr_277) rfl (show mcode 277 121 = some (121, .putfield 341, 3, 12, 34, 0, _) from rfl) (Or.inr (Or.inr (Or.inr (Or.inr (Or.inr (Or.inr (Or.inr (Or.inr (Or.inl ⟨_, _, _, rfl, by rw [eI88]; exact stf_I c94 (by decide) (by decide) (by decide), rfl⟩))))))))) ?_
        have xbI88 := i32b (0 : Int32)
        unfold lo32 hi32 at xbI88
        have hwI88 : wOK (mkT vV []) (wE sh R) (sh, I88, L9, R) := by rw [eI88]; exact wOK_u2 (q := 94) (k := 34) (x := 0) wE_put hw9 rfl (by show (0 : Int) ≤ _; omega) (by show _ ≤ (240 : Int); omega)
        have hfI88 : fresh (sh, I88, L9, R) := by rw [eI88]; exact fresh_I hf9 c94
        have v89 : I88 94 1 = td := by rw [eI88, up2_ne (fun e => by cases e.2)]; exact k1
        have v90 : I88 94 35 = rv := by rw [eI88, up2_ne (fun e => by cases e.2)]; exact k35
        have v91 : I88 94 50 = fl := by rw [eI88, up2_ne (fun e => by cases e.2)]; exact efl
        have v92 : I88 94 34 = 0 := by rw [eI88]; exact up2_eq
        refine XW.fam (S' := (125, [(0, .ref 94), (1, .int xv)], [.ref 94], (sh, I88, L9, R))) (M := mr_277) rfl (show mcode 277 124 = some (124, .aload_n 0, 1, 0, 0, 0, _) from rfl) (Or.inl ⟨.ref 94, rfl, rfl⟩) ?_
        refine XW.fam (S' := (128, [(0, .ref 94), (1, .int xv)], [.int (I88 94 50)], (sh, I88, L9, R))) (M := mr_277) rfl (show mcode 277 125 = some (125, .getfield 370, 3, 12, 50, 0, _) from rfl) (Or.inr (Or.inr (Or.inr (Or.inr (Or.inr (Or.inr (Or.inr (Or.inl ⟨_, _, rfl, fl_ldI c94 (by decide) (by decide), rfl⟩)))))))) ?_
        rw [v91]
        have k93 : bcmp .lt fl 0 = false := bcF (c := .lt) (a := (fl).toInt) (b := 0) rfl (by decide) (by show ¬ ((fl).toInt < 0); omega)
        refine XW.fam (S' := (131, [(0, .ref 94), (1, .int xv)], [], (sh, I88, L9, R))) (M := mr_277) rfl (show mcode 277 128 = some (128, .ifCond .lt 11, 3, 139, 0, 0, _) from rfl) (Or.inr (Or.inl ⟨131, [], by simp [brn, k93], rfl⟩)) ?_
        refine XW.fam (S' := (133, [(0, .ref 94), (1, .int xv)], [.int (-100)], (sh, I88, L9, R))) (M := mr_277) rfl (show mcode 277 131 = some (131, .bipush (-100), 2, 0, 0, 0, _) from rfl) (Or.inl ⟨.int (-100), rfl, rfl⟩) ?_
        refine XW.fam (S' := (134, [(0, .ref 94), (1, .int xv)], [.ref 94, .int (-100)], (sh, I88, L9, R))) (M := mr_277) rfl (show mcode 277 133 = some (133, .aload_n 0, 1, 0, 0, 0, _) from rfl) (Or.inl ⟨.ref 94, rfl, rfl⟩) ?_
        refine XW.fam (S' := (137, [(0, .ref 94), (1, .int xv)], [.int (I88 94 50), .int (-100)], (sh, I88, L9, R))) (M := mr_277) rfl (show mcode 277 134 = some (134, .getfield 370, 3, 12, 50, 0, _) from rfl) (Or.inr (Or.inr (Or.inr (Or.inr (Or.inr (Or.inr (Or.inr (Or.inl ⟨_, _, rfl, fl_ldI c94 (by decide) (by decide), rfl⟩)))))))) ?_
        rw [v91]
        refine XW.fam (S' := (138, [(0, .ref 94), (1, .int xv)], [.int ((-100) - fl)], (sh, I88, L9, R))) (M := mr_277) rfl (show mcode 277 137 = some (137, .isub, 1, 0, 0, 0, _) from rfl) (Or.inr (Or.inr (Or.inr (Or.inr (Or.inr (Or.inl ⟨_, rfl, rfl⟩)))))) ?_
        refine XW.ret (r := some (.int ((-100) - fl))) ⟨⟨.int, rfl, rfl⟩, by decide +kernel⟩ ?_
        rw [← eb, ← en]
        have ec : (ruC td.toInt xv.toInt rv.toInt (gFl b n)) = 2 := by
          unfold ruC
          rw [if_pos (by omega), if_neg (by omega), if_neg (by rw [eG]; omega)]
        rw [ec]
        refine ⟨⟨⟨_, rfl, ?_⟩, fun q k z => ?_, ?_, ?_, fun k => ?_, fun k => ?_⟩, hfI88, hwI88⟩
        · show ((-100 : Int32) - fl).toInt = -100 - gFl b n
          rw [eG, sub100 (fl := fl) (by omega) (by omega), hfl]
        · show I88 q k = I q k
          rw [eI88, up2_ne (fun e => by rw [e.1, e.2] at z; cases z)]
          exact keep q k z
        · exact congrArg Int32.toInt (show I88 94 34 = 0 by rw [eI88, up2_eq])
        · show (I88 94 35).toInt = (I 94 35).toInt
          rw [eI88, up2_ne (by decide), k35, erv]
        · rw [ruW_n (by decide)]
          show (I88 123 k).toInt = (I 123 k).toInt
          rw [eI88, up2_ne (fun e => by cases e.1), k123 k]
        · rw [ruW_n (by decide)]
          show (I88 124 k).toInt = (I 124 k).toInt
          rw [eI88, up2_ne (fun e => by cases e.1), k124 k]
    | false =>
      have gk2 : ¬ (¬ (rv).toInt = 20) := icF (c := .ne) (a := (rv).toInt) (b := 20) rfl (by decide) k2
      refine XW.fam (S' := (25, [(0, .ref 94), (1, .int xv)], [], (sh, I, L, R))) (M := mr_277) rfl (show mcode 277 22 = some (22, .if_icmp .ne 6, 3, 28, 0, 0, _) from rfl) (Or.inr (Or.inl ⟨25, [], by simp [brn, k2], rfl⟩)) ?_
      refine XW.fam (S' := (27, [(0, .ref 94), (1, .int xv)], [.int (-3)], (sh, I, L, R))) (M := mr_277) rfl (show mcode 277 25 = some (25, .bipush (-3), 2, 0, 0, 0, _) from rfl) (Or.inl ⟨.int (-3), rfl, rfl⟩) ?_
      refine XW.ret (r := some (.int (-3))) ⟨⟨.int, rfl, rfl⟩, by decide +kernel⟩ ?_
      first
        | (have ec : (ruC td.toInt xv.toInt rv.toInt (gFl (fun k => (I 122 k).toInt) (I 94 34).toInt.toNat)) = 0 := if_neg (by omega)
           rw [ec]
           exact ⟨RUM_same (by decide) rfl, hf, hw⟩)
        | (have ec : (ruC td.toInt xv.toInt rv.toInt (gFl (fun k => (I 122 k).toInt) (I 94 34).toInt.toNat)) = 1 := by
             unfold ruC
             rw [if_pos (by omega), if_pos (by omega)]
           rw [ec]
           exact ⟨RUM_same (by decide) rfl, hf, hw⟩)
