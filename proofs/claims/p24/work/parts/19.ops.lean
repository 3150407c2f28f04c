/-! ===== the abstract operations hold ===== -/
theorem add32 {x y : Int32} (h1 : lo32 ≤ x.toInt + y.toInt) (h2 : x.toInt + y.toInt ≤ hi32) : (x + y).toInt = x.toInt + y.toInt := by rw [Int32.toInt_add]; exact bm32 h1 h2
theorem sub32 {x y : Int32} (h1 : lo32 ≤ x.toInt - y.toInt) (h2 : x.toInt - y.toInt ≤ hi32) : (x - y).toInt = x.toInt - y.toInt := by rw [Int32.toInt_sub]; exact bm32 h1 h2
theorem mul32 {x y : Int32} (h1 : lo32 ≤ x.toInt * y.toInt) (h2 : x.toInt * y.toInt ≤ hi32) : (x * y).toInt = x.toInt * y.toInt := by rw [Int32.toInt_mul]; exact bm32 h1 h2
theorem ne0_of {y : Int32} (h : ¬ y.toInt = 0) : ¬ y = 0 := fun e => h (by rw [e]; rfl)
theorem div32 {x y : Int32} (h : 1 ≤ y.toInt) : (x / y).toInt = x.toInt.tdiv y.toInt := by
  refine Int32.toInt_div_of_ne_right x y (fun e => ?_)
  rw [e] at h
  exact absurd h (by decide)
theorem tdiv_rng {x y : Int} (h : 1 ≤ y) : (0 ≤ x → 0 ≤ x.tdiv y ∧ x.tdiv y ≤ x) ∧ (x ≤ 0 → x ≤ x.tdiv y ∧ x.tdiv y ≤ 0) := by
  refine ⟨fun h0 => ⟨Int.tdiv_nonneg h0 (by omega), Int.tdiv_le_self y h0⟩, fun h0 => ?_⟩
  have a1 := Int.tdiv_nonneg (a := -x) (b := y) (by omega) (by omega)
  have a2 := Int.tdiv_le_self (a := -x) y (by omega)
  rw [Int.neg_tdiv] at a1 a2
  omega
theorem rem32 {x y : Int32} (h : 1 ≤ y.toInt) : (x - x / y * y).toInt = x.toInt.tmod y.toInt := by
  have hd := @div32 x y h
  have e1 := Int.tmod_def x.toInt y.toInt
  have r := @tdiv_rng x.toInt y.toInt h
  have b := i32b x
  have n1 : 0 ≤ x.toInt → 0 ≤ x.toInt.tmod y.toInt := fun q => Int.tmod_nonneg _ q
  have n2 : x.toInt ≤ 0 → x.toInt.tmod y.toInt ≤ 0 := fun q => by
    have := Int.tmod_nonneg (a := -x.toInt) y.toInt (by omega)
    rw [Int.neg_tmod] at this
    omega
  have m1 : 0 ≤ x.toInt → 0 ≤ x.toInt.tdiv y.toInt * y.toInt := fun q => Int.mul_nonneg (r.1 q).1 (by omega)
  have m2 : x.toInt ≤ 0 → x.toInt.tdiv y.toInt * y.toInt ≤ 0 := fun q => Int.mul_nonpos_of_nonpos_of_nonneg (r.2 q).2 (by omega)
  rw [Int.mul_comm y.toInt] at e1
  have hm : (x / y * y).toInt = x.toInt.tdiv y.toInt * y.toInt := by
    rw [mul32, hd]
    · rw [hd]; unfold lo32 hi32 at *; rcases Int.le_total 0 x.toInt with q | q
      · have := m1 q; omega
      · have := n2 q; omega
    · rw [hd]; unfold lo32 hi32 at *; rcases Int.le_total 0 x.toInt with q | q
      · have := n1 q; omega
      · have := m2 q; omega
  rw [sub32, hm]
  · omega
  · rw [hm]; unfold lo32 hi32 at *; rcases Int.le_total 0 x.toInt with q | q
    · have := n1 q; omega
    · have := m2 q; omega
  · rw [hm]; unfold lo32 hi32 at *; rcases Int.le_total 0 x.toInt with q | q
    · have := m1 q; omega
    · have := n2 q; omega
theorem nI_of32 (x : Int32) : ∃ n, n < 2 ^ 32 ∧ x = nI n := ⟨x.toBitVec.toNat, x.toBitVec.isLt, Int32.toBitVec_inj.mp (by show _ = BitVec.ofNat 32 _; simp)⟩
theorem nI_and (a b : Nat) : nI a &&& nI b = nI (a &&& b) := by
  apply Int32.toBitVec_inj.1
  show BitVec.ofNat 32 a &&& BitVec.ofNat 32 b = BitVec.ofNat 32 (a &&& b)
  apply BitVec.eq_of_getLsbD_eq
  intro i hi
  simp [BitVec.getLsbD_ofNat, Nat.testBit_and, hi]
theorem nI_nn {x : Int32} (h : 0 ≤ x.toInt) : ∃ n, n < 2 ^ 31 ∧ x = nI n ∧ x.toInt = n := by
  have b := x.toInt_lt
  refine ⟨x.toInt.toNat, by omega, ?_, by omega⟩
  apply Int32.toInt_inj.mp
  rw [nI_toInt (by omega)]
  omega
theorem and32l {x y : Int32} (h : 0 ≤ x.toInt) : 0 ≤ (x &&& y).toInt ∧ (x &&& y).toInt ≤ x.toInt := by
  obtain ⟨n, h1, h2, h3⟩ := nI_nn h
  obtain ⟨m, -, h5⟩ := nI_of32 y
  have hl : n &&& m ≤ n := Nat.and_le_left
  rw [h3, h2, h5, nI_and, nI_toInt (by omega)]
  omega
theorem and32r {x y : Int32} (h : 0 ≤ y.toInt) : 0 ≤ (x &&& y).toInt ∧ (x &&& y).toInt ≤ y.toInt := by
  obtain ⟨n, h1, h2, h3⟩ := nI_nn h
  obtain ⟨m, -, h5⟩ := nI_of32 x
  have hl : m &&& n ≤ n := Nat.and_le_right
  rw [h3, h2, h5, nI_and, nI_toInt (by omega)]
  omega
theorem nI_or (a b : Nat) : nI a ||| nI b = nI (a ||| b) := by
  apply Int32.toBitVec_inj.1
  show BitVec.ofNat 32 a ||| BitVec.ofNat 32 b = BitVec.ofNat 32 (a ||| b)
  apply BitVec.eq_of_getLsbD_eq
  intro i hi
  simp [BitVec.getLsbD_ofNat, Nat.testBit_or, hi]
theorem nI_xor (a b : Nat) : nI a ^^^ nI b = nI (a ^^^ b) := by
  apply Int32.toBitVec_inj.1
  show BitVec.ofNat 32 a ^^^ BitVec.ofNat 32 b = BitVec.ofNat 32 (a ^^^ b)
  apply BitVec.eq_of_getLsbD_eq
  intro i hi
  simp [BitVec.getLsbD_ofNat, Nat.testBit_xor, hi]
theorem lg_up {a m : Nat} (h : a ≤ m) : a < 2 ^ (m.log2 + 1) := Nat.lt_of_le_of_lt h Nat.lt_log2_self
theorem or32 {x y : Int32} {ha hb : Int} (hx : 0 ≤ x.toInt) (hy : 0 ≤ y.toInt) (h1 : x.toInt ≤ ha) (h2 : y.toInt ≤ hb) : 0 ≤ (x ||| y).toInt ∧ (x ||| y).toInt ≤ 2 ^ ((imax ha hb).toNat.log2 + 1) - 1 := by
  obtain ⟨n, n1, n2, n3⟩ := nI_nn hx
  obtain ⟨k, k1, k2, k3⟩ := nI_nn hy
  have m := @imax_le ha hb
  have a1 : n ||| k < 2 ^ 31 := Nat.or_lt_two_pow n1 k1
  have a2 : n ||| k < 2 ^ ((imax ha hb).toNat.log2 + 1) := Nat.or_lt_two_pow (lg_up (by omega)) (lg_up (by omega))
  have a3 : ((n ||| k : Nat) : Int) < 2 ^ ((imax ha hb).toNat.log2 + 1) := by exact_mod_cast a2
  rw [n2, k2, nI_or, nI_toInt (by omega)]
  omega
theorem xor32 {x y : Int32} {ha hb : Int} (hx : 0 ≤ x.toInt) (hy : 0 ≤ y.toInt) (h1 : x.toInt ≤ ha) (h2 : y.toInt ≤ hb) : 0 ≤ (x ^^^ y).toInt ∧ (x ^^^ y).toInt ≤ 2 ^ ((imax ha hb).toNat.log2 + 1) - 1 := by
  obtain ⟨n, n1, n2, n3⟩ := nI_nn hx
  obtain ⟨k, k1, k2, k3⟩ := nI_nn hy
  have m := @imax_le ha hb
  have a1 : n ^^^ k < 2 ^ 31 := Nat.xor_lt_two_pow n1 k1
  have a2 : n ^^^ k < 2 ^ ((imax ha hb).toNat.log2 + 1) := Nat.xor_lt_two_pow (lg_up (by omega)) (lg_up (by omega))
  have a3 : ((n ^^^ k : Nat) : Int) < 2 ^ ((imax ha hb).toNat.log2 + 1) := by exact_mod_cast a2
  rw [n2, k2, nI_xor, nI_toInt (by omega)]
  omega
theorem shl1 : ∀ n : Fin 31, ((1 : Int32) <<< (nI n.val &&& 31)).toInt = 2 ^ n.val := by decide +kernel
theorem pow_mono2 {a b : Nat} (h : a ≤ b) : (2 : Int) ^ a ≤ 2 ^ b := by
  have := Nat.pow_le_pow_right (n := 2) (by decide) h
  exact_mod_cast this
set_option maxHeartbeats 1000000 in
theorem abin_ok {ins : Instr} {B B' : aB} {F : List aI} {rho : Nat → Int} {x y z : aI} {i k : Int32} (hB : bOK B rho) (hF : cOK B.1 rho F) (hx : nb B.1 x) (hy : nb B.1 y) (hi : i.toInt = fvl rho x) (hk : k.toInt = fvl rho y) (h : abin ins B F x y = some (z, B')) : ∃ r, ibin ins i k = some r ∧ nOK B rho B' z r := by
  have v1 := ivl_ok hB hx hi
  have v2 := ivl_ok hB hy hk
  have top : ∀ r : Int32, some (mkv B lo32 hi32) = some (z, B') → nOK B rho B' z r := by
    intro r e
    have e := Option.some.inj e
    have := mkv_top (B := B) (rho := rho) r hB
    rw [e] at this
    exact this
  have mk : ∀ (r : Int32) (l h : Int), some (mkv B l h) = some (z, B') → l ≤ r.toInt → r.toInt ≤ h → nOK B rho B' z r := by
    intro r l h e q1 q2
    have e := Option.some.inj e
    have := mkv_ok (B := B) (rho := rho) (i := r) hB q1 q2
    rw [e] at this
    exact this
  have mf : ∀ (r : Int32) (f : aI), some (mkf B F f) = some (z, B') → nb B.1 f → (lo32 ≤ fvl rho f → fvl rho f ≤ hi32 → r.toInt = fvl rho f) → nOK B rho B' z r := by
    intro r f e q1 q2
    have e := Option.some.inj e
    have := mkf_ok (B := B) (rho := rho) (i := r) hB hF q1 q2
    rw [e] at this
    exact this
  unfold abin at h
  split at h
  · refine ⟨_, rfl, mf _ _ h (nb_ad hx hy) (fun q1 q2 => ?_)⟩
    rw [fvl_ad] at q1 q2 ⊢
    rw [add32 (by omega) (by omega)]
    omega
  · refine ⟨_, rfl, mf _ _ h (nb_sb hx hy) (fun q1 q2 => ?_)⟩
    rw [fvl_sb] at q1 q2 ⊢
    rw [sub32 (by omega) (by omega)]
    omega
  split at h
  next la ha lb hb e1 e2 =>
  rw [e1] at v1
  rw [e2] at v2
  dsimp only at v1 v2
  split at h
  · refine ⟨_, rfl, ?_⟩
    cases c0 : ieq lb hb with
    | true =>
      rw [c0] at h
      have g0 := ieq_iff.mp c0
      refine mf _ _ h (nb_sc hx) (fun q1 q2 => ?_)
      have ek : k.toInt = lb := by omega
      rw [fvl_sc, ← hi, ← ek, Int.mul_comm] at q1 q2 ⊢
      exact mul32 q1 q2
    | false =>
      rw [c0] at h
      simp only [cond_false] at h
      cases c1 : ieq la ha with
      | true =>
        rw [c1] at h
        have g0 := ieq_iff.mp c1
        refine mf _ _ h (nb_sc hy) (fun q1 q2 => ?_)
        have ek : i.toInt = la := by omega
        rw [fvl_sc, ← hk, ← ek] at q1 q2 ⊢
        exact mul32 q1 q2
      | false =>
        rw [c1] at h
        simp only [cond_false] at h
        have m := mul4 v1.1 v1.2 v2.1 v2.2
        generalize mxn4 (la * lb) (la * hb) (ha * lb) (ha * hb) = mm at h m
        obtain ⟨l, hh⟩ := mm
        dsimp only at h m
        cases c : in32 l hh with
        | false => rw [c] at h; exact top _ h
        | true =>
          rw [c] at h
          have g := in32_iff.mp c
          have hs : (i * k).toInt = i.toInt * k.toInt := mul32 (by omega) (by omega)
          exact mk _ _ _ h (by omega) (by omega)
  · refine ⟨_, rfl, ?_⟩
    cases c : ile 0 la with
    | true =>
      rw [c] at h
      have g := ile_iff.mp c
      have a1 := and32l (x := i) (y := k) (by omega)
      cases c2 : ile 0 lb with
      | true =>
        rw [c2] at h
        have g2 := ile_iff.mp c2
        have a2 := and32r (x := i) (y := k) (by omega)
        have m := @imin_le ha hb
        exact mk _ _ _ h (by omega) (by simp only [cond_true]; omega)
      | false =>
        rw [c2] at h
        exact mk _ _ _ h (by omega) (by simp only [cond_false]; omega)
    | false =>
      rw [c] at h
      simp only [cond_false] at h
      cases c2 : ile 0 lb with
      | true =>
        rw [c2] at h
        have g2 := ile_iff.mp c2
        have a2 := and32r (x := i) (y := k) (by omega)
        exact mk _ _ _ h (by omega) (by omega)
      | false => rw [c2] at h; exact top _ h
  · refine ⟨_, rfl, ?_⟩
    cases c : (ile 0 la && ile 0 lb) with
    | false => rw [c] at h; exact top _ h
    | true =>
      rw [c] at h
      simp only [Bool.and_eq_true, ile_iff] at c
      have q := or32 (x := i) (y := k) (ha := ha) (hb := hb) (by omega) (by omega) (by omega) (by omega)
      exact mk _ _ _ h q.1 q.2
  · refine ⟨_, rfl, ?_⟩
    cases c : (ile 0 la && ile 0 lb) with
    | false => rw [c] at h; exact top _ h
    | true =>
      rw [c] at h
      simp only [Bool.and_eq_true, ile_iff] at c
      have q := xor32 (x := i) (y := k) (ha := ha) (hb := hb) (by omega) (by omega) (by omega) (by omega)
      exact mk _ _ _ h q.1 q.2
  · refine ⟨_, rfl, ?_⟩
    cases c : (ieq la 1 && ieq ha 1 && ile 0 lb && ile hb 30) with
    | false => rw [c] at h; exact top _ h
    | true =>
      rw [c] at h
      simp only [Bool.and_eq_true] at c
      obtain ⟨⟨⟨c1, c2⟩, c3⟩, c4⟩ := c
      have g1 := ieq_iff.mp c1
      have g2 := ieq_iff.mp c2
      have g3 := ile_iff.mp c3
      have g4 := ile_iff.mp c4
      have ei : i = 1 := Int32.toInt_inj.mp (by rw [show i.toInt = 1 by omega]; rfl)
      obtain ⟨n, h1, h2, h3⟩ := nI_nn (x := k) (by omega)
      have hs : (i <<< (k &&& 31)).toInt = 2 ^ n := by
        rw [ei, h2]
        exact shl1 ⟨n, by omega⟩
      refine mk _ _ _ h ?_ ?_
      · rw [hs]; exact pow_mono2 (by omega)
      · rw [hs]; exact pow_mono2 (by omega)
  · exact ⟨_, rfl, top _ h⟩
  · cases c : ile 1 lb with
    | true =>
      rw [c] at h
      simp only [cond_true] at h
      have g := ile_iff.mp c
      have hd := @div32 i k (by omega)
      refine ⟨i / k, by simp only [ibin]; rw [if_neg (ne0_of (by omega))], ?_⟩
      cases c1 : ieq lb hb with
      | true =>
        rw [c1] at h
        have g1 := ieq_iff.mp c1
        have ek : k.toInt = lb := by omega
        refine mk _ _ _ h ?_ ?_
        · rw [hd, ek]
          refine Int.tdiv_le_tdiv (by omega) ?_
          cases hp : prv B F x with
          | true =>
            have p0 := prv_ok hB hF hx hp
            have mm := @imax_le la 0
            simp only [cond_true]
            omega
          | false => exact v1.1
        · rw [hd, ek]; exact Int.tdiv_le_tdiv (by omega) v1.2
      | false =>
        rw [c1] at h
        have r := @tdiv_rng i.toInt k.toInt (by omega)
        have m1 := @imin_le la 0
        have m2 := @imax_le ha 0
        refine mk _ _ _ h ?_ ?_
        · rw [hd]
          rcases Int.le_total 0 i.toInt with q | q
          · have := (r.1 q).1; omega
          · have := (r.2 q).1; omega
        · rw [hd]
          rcases Int.le_total 0 i.toInt with q | q
          · have := (r.1 q).2; omega
          · have := (r.2 q).2; omega
    | false =>
      rw [c] at h
      simp only [cond_false] at h
      cases c2 : ile hb (-1) with
      | false => rw [c2] at h; cases h
      | true =>
        rw [c2] at h
        have g := ile_iff.mp c2
        exact ⟨i / k, by simp only [ibin]; rw [if_neg (ne0_of (by omega))], top _ h⟩
  · cases c : ile 1 lb with
    | true =>
      rw [c] at h
      simp only [cond_true] at h
      have g := ile_iff.mp c
      have hd := @rem32 i k (by omega)
      refine ⟨i - i / k * k, by simp only [ibin]; rw [if_neg (ne0_of (by omega))], ?_⟩
      have r1 := Int.tmod_lt_of_pos i.toInt (b := k.toInt) (by omega)
      have r2 := Int.lt_tmod_of_pos i.toInt (b := k.toInt) (by omega)
      have e1 := Int.tmod_def i.toInt k.toInt
      have r := @tdiv_rng i.toInt k.toInt (by omega)
      have n1 : 0 ≤ i.toInt → 0 ≤ i.toInt.tmod k.toInt := fun q => Int.tmod_nonneg _ q
      have n2 : i.toInt ≤ 0 → i.toInt.tmod k.toInt ≤ 0 := fun q => by
        have := Int.tmod_nonneg (a := -i.toInt) k.toInt (by omega)
        rw [Int.neg_tmod] at this
        omega
      have m1 : 0 ≤ i.toInt → 0 ≤ k.toInt * i.toInt.tdiv k.toInt := fun q => Int.mul_nonneg (by omega) (r.1 q).1
      have m2 : i.toInt ≤ 0 → k.toInt * i.toInt.tdiv k.toInt ≤ 0 := fun q => by rw [Int.mul_comm]; exact Int.mul_nonpos_of_nonpos_of_nonneg (r.2 q).2 (by omega)
      have p1 := @imin_le la 0
      have p2 := @imax_le ha 0
      have p3 := @imax_le (1 - hb) (imin la 0)
      have p4 := @imin_le (hb - 1) (imax ha 0)
      refine mk _ _ _ h ?_ ?_
      · rw [hd]
        rcases Int.le_total 0 i.toInt with q | q
        · have := n1 q; omega
        · have := m2 q; omega
      · rw [hd]
        rcases Int.le_total 0 i.toInt with q | q
        · have := m1 q; omega
        · have := n2 q; omega
    | false =>
      rw [c] at h
      simp only [cond_false] at h
      cases c2 : ile hb (-1) with
      | false => rw [c2] at h; cases h
      | true =>
        rw [c2] at h
        have g := ile_iff.mp c2
        exact ⟨i - i / k * k, by simp only [ibin]; rw [if_neg (ne0_of (by omega))], top _ h⟩
  · cases h
theorem i2b_rng (x : Int32) : -128 ≤ x.toInt8.toInt32.toInt ∧ x.toInt8.toInt32.toInt ≤ 127 := by
  rw [Int8.toInt_toInt32]
  have h1 := x.toInt8.le_toInt
  have h2 := x.toInt8.toInt_lt
  omega
theorem i2b_id {x : Int32} (h1 : -128 ≤ x.toInt) (h2 : x.toInt ≤ 127) : x.toInt8.toInt32.toInt = x.toInt := by
  rw [Int8.toInt_toInt32, Int32.toInt_toInt8]
  exact Int.bmod_eq_of_le (by omega) (by omega)
theorem i2s_rng (x : Int32) : -32768 ≤ x.toInt16.toInt32.toInt ∧ x.toInt16.toInt32.toInt ≤ 32767 := by
  rw [Int16.toInt_toInt32]
  have h1 := x.toInt16.le_toInt
  have h2 := x.toInt16.toInt_lt
  omega
theorem i2s_id {x : Int32} (h1 : -32768 ≤ x.toInt) (h2 : x.toInt ≤ 32767) : x.toInt16.toInt32.toInt = x.toInt := by
  rw [Int16.toInt_toInt32, Int32.toInt_toInt16]
  exact Int.bmod_eq_of_le (by omega) (by omega)
theorem aun_ok {ins : Instr} {B B' : aB} {rho : Nat → Int} {x z : aI} {i : Int32} (hB : bOK B rho) (hx : nb B.1 x) (hi : i.toInt = fvl rho x) (h : aun ins B x = some (z, B')) : ∃ r, iun ins i = some r ∧ nOK B rho B' z r := by
  have v1 := ivl_ok hB hx hi
  have top : ∀ r : Int32, some (mkv B lo32 hi32) = some (z, B') → nOK B rho B' z r := by
    intro r e
    have e := Option.some.inj e
    have := mkv_top (B := B) (rho := rho) r hB
    rw [e] at this
    exact this
  have mk : ∀ (r : Int32) (l h : Int), some (mkv B l h) = some (z, B') → l ≤ r.toInt → r.toInt ≤ h → nOK B rho B' z r := by
    intro r l h e q1 q2
    have e := Option.some.inj e
    have := mkv_ok (B := B) (rho := rho) (i := r) hB q1 q2
    rw [e] at this
    exact this
  unfold aun at h
  split at h
  next l hh e1 =>
  rw [e1] at v1
  dsimp only at v1
  split at h
  · refine ⟨_, rfl, ?_⟩
    cases c : in32 (-hh) (-l) with
    | false => rw [c] at h; exact top _ h
    | true =>
      rw [c] at h
      have g := in32_iff.mp c
      have hs : (-i).toInt = -i.toInt := by rw [Int32.toInt_neg]; exact bm32 (by omega) (by omega)
      exact mk _ _ _ h (by omega) (by omega)
  · refine ⟨_, rfl, ?_⟩
    cases c : (ile (-128) l && ile hh 127) with
    | false => rw [c] at h; exact mk _ _ _ h (i2b_rng i).1 (i2b_rng i).2
    | true =>
      rw [c] at h
      simp only [Bool.and_eq_true] at c
      have g1 := ile_iff.mp c.1
      have g2 := ile_iff.mp c.2
      cases h
      exact nOK_same hB hx (by rw [i2b_id (by omega) (by omega)]; exact hi)
  · refine ⟨_, rfl, ?_⟩
    cases c : (ile (-32768) l && ile hh 32767) with
    | false => rw [c] at h; exact mk _ _ _ h (i2s_rng i).1 (i2s_rng i).2
    | true =>
      rw [c] at h
      simp only [Bool.and_eq_true] at c
      have g1 := ile_iff.mp c.1
      have g2 := ile_iff.mp c.2
      cases h
      exact nOK_same hB hx (by rw [i2s_id (by omega) (by omega)]; exact hi)
  · cases h
/-! the stack -/
theorem stk_bin {ins : Instr} {i k r : Int32} {s : List Value} (h : ibin ins i k = some r) : stk ins (.int k :: .int i :: s) = some (.int r :: s) := by
  have h' := h
  unfold ibin at h
  split at h <;> first | (cases h; done) | (unfold stk; simp only [h'])
theorem stk_un {ins : Instr} {i r : Int32} {s : List Value} (h : iun ins i = some r) : stk ins (.int i :: s) = some (.int r :: s) := by
  unfold iun at h
  split at h
  · cases h; cases s with
    | nil => rfl
    | cons v s => cases v <;> rfl
  · cases h; cases s with
    | nil => rfl
    | cons v s => cases v <;> rfl
  · cases h; cases s with
    | nil => rfl
    | cons v s => cases v <;> rfl
  · cases h
theorem stk_lbin {ins : Instr} {l m : Int64} {s : List Value} {q : Int64} (h : lbin ins 0 0 = some q) : ∃ r, stk ins (.long m :: .long l :: s) = some (.long r :: s) := by
  unfold lbin at h
  split at h <;> first | (cases h; done) | exact ⟨_, rfl⟩
theorem stk_lsh {ins : Instr} {l : Int64} {i : Int32} {s : List Value} {q : Int64} (h : lsh ins 0 0 = some q) : ∃ r, stk ins (.int i :: .long l :: s) = some (.long r :: s) := by
  unfold lsh at h
  split at h <;> first | (cases h; done) | exact ⟨_, rfl⟩
theorem lcmp_rng (x y : Int64) : -1 ≤ (lg_cmp x y).toInt ∧ (lg_cmp x y).toInt ≤ 1 := by
  unfold lg_cmp
  split
  · decide
  · split <;> decide
theorem vOK.cat {n : Nat} {rho : Nat → Int} {a : aV} {v : Value} (h : vOK n rho a v) : v.category = acat a := by
  unfold vOK at h
  split at h
  · obtain ⟨-, i, rfl, -⟩ := h; rfl
  · subst h; rfl
  · obtain ⟨l, rfl⟩ := h; rfl
theorem vOK.cat1 {n : Nat} {rho : Nat → Int} {a : aV} {v : Value} (h : vOK n rho a v) (hl : isL a = false) : v.category = 1 := by
  rw [h.cat]
  unfold acat
  rw [hl]
  rfl
set_option maxHeartbeats 1000000 in
theorem astk_ok {ins : Instr} {B B' : aB} {F : List aI} {rho : Nat → Int} {st st' : List aV} {s : List Value} (hB : bOK B rho) (hF : cOK B.1 rho F) (hs : sOK B.1 rho st s) (h : astk ins B F st = some (st', B')) : ∃ s' rho', stk ins s = some s' ∧ agr B.1 rho rho' ∧ bOK B' rho' ∧ B.1 ≤ B'.1 ∧ sOK B'.1 rho' st' s' := by
  unfold astk at h
  split at h
  · split at h
    · next v r =>
      match s, hs with
      | a :: s, hs =>
        cases c : isL v with
        | true => rw [c] at h; cases h
        | false =>
          rw [c] at h
          cases h
          refine ⟨a :: a :: s, rho, ?_, agr.refl _ _, hB, Nat.le_refl _, hs.1, hs.1, hs.2⟩
          exact if_pos (hs.1.cat1 c)
    · cases h
  · split at h
    · next v r =>
      match s, hs with
      | a :: s, hs =>
        cases c : isL v with
        | true => rw [c] at h; cases h
        | false =>
          rw [c] at h
          cases h
          refine ⟨s, rho, ?_, agr.refl _ _, hB, Nat.le_refl _, hs.2⟩
          exact if_pos (hs.1.cat1 c)
    · cases h
  · split at h
    · next r =>
      match s, hs with
      | a :: s, hs =>
        cases h
        obtain ⟨l, rfl⟩ := hs.1
        exact ⟨s, rho, rfl, agr.refl _ _, hB, Nat.le_refl _, hs.2⟩
    · cases h
  · split at h
    · next v u r =>
      match s, hs with
      | a :: b :: s, hs =>
        cases c : (isL v || isL u) with
        | true => rw [c] at h; cases h
        | false =>
          rw [c] at h
          cases h
          simp only [Bool.or_eq_false_iff] at c
          refine ⟨a :: b :: a :: s, rho, ?_, agr.refl _ _, hB, Nat.le_refl _, hs.1, hs.2.1, hs.1, hs.2.2⟩
          exact if_pos ⟨hs.1.cat1 c.1, hs.2.1.cat1 c.2⟩
    · cases h
  · split at h
    · next v u r =>
      match s, hs with
      | a :: b :: s, hs =>
        cases c : (isL v || isL u) with
        | true => rw [c] at h; cases h
        | false =>
          rw [c] at h
          cases h
          simp only [Bool.or_eq_false_iff] at c
          refine ⟨a :: b :: a :: b :: s, rho, ?_, agr.refl _ _, hB, Nat.le_refl _, hs.1, hs.2.1, hs.1, hs.2.1, hs.2.2⟩
          exact if_pos ⟨hs.1.cat1 c.1, hs.2.1.cat1 c.2⟩
    · cases h
  · split at h
    · next x r =>
      match s, hs with
      | a :: s, hs =>
        cases h
        obtain ⟨-, i, rfl, -⟩ := hs.1
        exact ⟨_, rho, rfl, agr.refl _ _, hB, Nat.le_refl _, ⟨_, rfl⟩, hs.2⟩
    · cases h
  · split at h
    · next r =>
      match s, hs with
      | a :: s, hs =>
        obtain ⟨l, rfl⟩ := hs.1
        have := mkv_top (B := B) (rho := rho) l.toInt32 hB
        split at h
        next z B2 e =>
        cases h
        rw [e] at this
        obtain ⟨rho', h1, h2, h3, h4, h5⟩ := this
        exact ⟨_, rho', rfl, h1, h2, h3, ⟨h4, _, rfl, h5⟩, hs.2.mono h3 h1⟩
    · cases h
  · split at h
    · next r =>
      match s, hs with
      | a :: b :: s, hs =>
        obtain ⟨l, rfl⟩ := hs.1
        obtain ⟨m, rfl⟩ := hs.2.1
        have := mkv_ok (B := B) (rho := rho) (i := lg_cmp m l) hB (lcmp_rng m l).1 (lcmp_rng m l).2
        split at h
        next z B2 e =>
        cases h
        rw [e] at this
        obtain ⟨rho', h1, h2, h3, h4, h5⟩ := this
        exact ⟨_, rho', rfl, h1, h2, h3, ⟨h4, _, rfl, h5⟩, hs.2.2.mono h3 h1⟩
    · cases h
  · split at h
    · next y x r =>
      match s, hs with
      | a :: b :: s, hs =>
        obtain ⟨hy, k, rfl, hk⟩ := hs.1
        obtain ⟨hx, i, rfl, hi⟩ := hs.2.1
        split at h
        · next z B2 e =>
          cases h
          obtain ⟨rr, q1, rho', h1, h2, h3, h4, h5⟩ := abin_ok hB hF hx hy hi hk e
          exact ⟨_, rho', stk_bin q1, h1, h2, h3, ⟨h4, _, rfl, h5⟩, hs.2.2.mono h3 h1⟩
        · split at h
          · next z B2 e =>
            cases h
            obtain ⟨rr, q1, rho', h1, h2, h3, h4, h5⟩ := aun_ok hB hy hk e
            exact ⟨_, rho', stk_un q1, h1, h2, h3, ⟨h4, _, rfl, h5⟩, hs.2.1.mono h3 h1, hs.2.2.mono h3 h1⟩
          · cases h
    · next y r =>
      match s, hs with
      | a :: b :: s, hs =>
        obtain ⟨hy, k, rfl, hk⟩ := hs.1
        obtain ⟨l, rfl⟩ := hs.2.1
        split at h
        · next q e =>
          cases h
          obtain ⟨rr, q1⟩ := stk_lsh (l := l) (i := k) (s := s) e
          exact ⟨_, rho, q1, agr.refl _ _, hB, Nat.le_refl _, ⟨_, rfl⟩, hs.2.2⟩
        · split at h
          · next z B2 e =>
            cases h
            obtain ⟨rr, q1, rho', h1, h2, h3, h4, h5⟩ := aun_ok hB hy hk e
            exact ⟨_, rho', stk_un q1, h1, h2, h3, ⟨h4, _, rfl, h5⟩, ⟨_, rfl⟩, hs.2.2.mono h3 h1⟩
          · cases h
    · next y r _ _ =>
      match s, hs with
      | a :: s, hs =>
        obtain ⟨hy, k, rfl, hk⟩ := hs.1
        split at h
        · next z B2 e =>
          cases h
          obtain ⟨rr, q1, rho', h1, h2, h3, h4, h5⟩ := aun_ok hB hy hk e
          exact ⟨_, rho', stk_un q1, h1, h2, h3, ⟨h4, _, rfl, h5⟩, hs.2.mono h3 h1⟩
        · cases h
    · next r =>
      match s, hs with
      | a :: b :: s, hs =>
        obtain ⟨l, rfl⟩ := hs.1
        obtain ⟨m, rfl⟩ := hs.2.1
        split at h
        · next q e =>
          cases h
          obtain ⟨rr, q1⟩ := stk_lbin (l := m) (m := l) (s := s) e
          exact ⟨_, rho, q1, agr.refl _ _, hB, Nat.le_refl _, ⟨_, rfl⟩, hs.2.2⟩
        · cases h
    · cases h
