/-! ===== readLine of the model (wip/genmline.py) ===== -/
def mdRl : aM := mdM ++ [(94, some 202), (94, some 203), (125, none), (126, none), (127, none), (128, none), (129, none), (130, none)]
theorem inm_MR {q k : Nat} (hq : inm mdRl q k = false) : inm mdM q k = false := inm_sub (A := mdM) (B := mdRl) (fun e he => List.mem_append_left _ he) hq
theorem XW.gh {j : Nat} {M : mMt} {dd mc ms : Nat} {Q : Option Value → mW → Prop} {pc : Nat} {ls : List (Nat × Value)} {st : List Value} {sh : List mE} {I : Nat → Nat → Int32} {L : Nat → Nat → Int64} {R : Nat → Nat → Option Nat} {q g cc : Nat} {x : Int32} (hq : sh[q]? = some (.inr cc)) (hg : (flds cc).length ≤ g) (K : XW j M none dd mc ms Q (pc, ls, st, (sh, up2 I q g x, L, R))) : XW j M none dd mc ms Q (pc, ls, st, (sh, I, L, R)) := by
  intro D base xa p l e Rm s m args below meth c Z H locs cells slots lsA cA hC hfr hlo hce hsl hH hL hlv hret
  exact K D base xa p l e Rm s m args below meth c Z H locs cells slots lsA cA hC hfr hlo hce hsl (HR_gh hq hg hH) hL hlv hret
theorem mBs_keep {I J : Nat → Nat → Int32} {b : Nat → Int} {n N : Nat} (hk : ∀ q k, inm mdRl q k = false → I q k = J q k) (hJ : mBs J b n N) : mBs I b n N := ⟨⟨fun k => by rw [hk 122 k rfl]; exact hJ.1.1 k, by rw [hk 94 34 rfl]; exact hJ.1.2⟩, hJ.2.1, by rw [hk 94 35 rfl, hk 94 52 rfl]; exact hJ.2.2.1, hJ.2.2.2⟩
theorem rsM_cong {b : Nat → Int} {n N o h : Nat} {c : Int} {I I' : Nat → Nat → Int32} {g : Bool × Nat} (e : ∀ k, k = 46 ∨ k = 47 ∨ k = 48 ∨ k = 50 ∨ k = 51 ∨ k = 53 ∨ k = 200 ∨ k = 201 → I' 94 k = I 94 k) (hr : rsM b n N o h c I g) : rsM b n N o h c I' g := by
  refine ⟨⟨?_, hr.1.2⟩, fun z => mS_same (e 46 (by decide)) (e 47 (by decide)) (e 48 (by decide)) (e 50 (by decide)) (e 51 (by decide)) (e 201 (by decide)) (e 200 (by decide)) (hr.2.1 z), fun z => ?_⟩
  · rw [e 53 (by decide)]
    exact hr.1.1
  · rw [e 50 (by decide), e 201 (by decide), e 51 (by decide)]
    exact hr.2.2 z
theorem rsM_h0 {b : Nat → Int} {n N o h : Nat} {c : Int} {I I' : Nat → Nat → Int32} {g : Bool × Nat} (e : ∀ k, k = 46 ∨ k = 47 ∨ k = 48 ∨ k = 50 ∨ k = 51 ∨ k = 53 ∨ k = 201 → I' 94 k = I 94 k) (e0 : I' 94 200 = 0) (hr : rsM b n N o h c I g) : rsM b n N o 0 c I' g := by
  refine ⟨⟨?_, hr.1.2⟩, fun z => ?_, fun z => ?_⟩
  · rw [e 53 (by decide)]
    exact hr.1.1
  · obtain ⟨⟨a1, a2, a3⟩, a4, a5, a6, a7, a8⟩ := hr.2.1 z
    refine ⟨⟨?_, ?_, ?_⟩, ?_, ?_, ?_, ?_, a8⟩
    · rw [e 46 (by decide)]
      exact a1
    · rw [e 47 (by decide)]
      exact a2
    · rw [e 48 (by decide)]
      exact a3
    · rw [e 50 (by decide)]
      exact a4
    · rw [e 51 (by decide)]
      exact a5
    · rw [e 201 (by decide)]
      exact a6
    · exact congrArg Int32.toInt e0
  · rw [e 50 (by decide), e 201 (by decide), e 51 (by decide)]
    exact hr.2.2 z
/-- within a line: l the line's place, ro the row, m lines before, ph how much of the line is put down -/
def LQ (sh : List mE) (R : Nat → Nat → Option Nat) (J : Nat → Nat → Int32) (b : Nat → Int) (n N : Nat) (l ro m ph h : Nat) (g : Bool × Nat) (w : mW) : Prop := fresh w ∧ wOK (mkT vV []) (wE sh R) w ∧ (∀ q k, inm mdRl q k = false → w.2.1 q k = J q k) ∧ rsM b n N 0 h 0 w.2.1 g ∧ (w.2.1 125 ro).toInt = (m : Int) ∧ (g.1 = true → (1 ≤ ph → nv w.2.1 128 l = nv w.2.1 94 202) ∧ (ph = 1 → nv w.2.1 94 202 = nv w.2.1 94 203) ∧ (2 ≤ ph → nv w.2.1 129 l = nv w.2.1 94 203) ∧ (3 ≤ ph → nv w.2.1 130 l = nv w.2.1 94 53))
def QL (sh : List mE) (R : Nat → Nat → Option Nat) (J : Nat → Nat → Int32) (b : Nat → Int) (n N : Nat) (e : Int) (g : Bool × Nat) (w : mW) : Prop := fresh w ∧ wOK (mkT vV []) (wE sh R) w ∧ (∀ q k, inm mdRl q k = false → w.2.1 q k = J q k) ∧ (∃ h, rsM b n N 0 h 0 w.2.1 g) ∧ (g.1 = true → 2 * (w.2.1 125 (nv J 94 52)).toInt ≤ (g.2 : Int) + e)
def QLT (sh : List mE) (R : Nat → Nat → Option Nat) (J : Nat → Nat → Int32) (b : Nat → Int) (n N : Nat) (e : Int) (g : Bool × Nat) (r : Option Value) (w : mW) : Prop := r = none ∧ QL sh R J b n N e g w
theorem QL_f {sh : List mE} {J : Nat → Nat → Int32} {R : Nat → Nat → Option Nat} {b : Nat → Int} {n N : Nat} {l ro m ph h : Nat} {g : Bool × Nat} {e : Int} {w : mW} (hL : LQ sh R J b n N l ro m ph h g w) (hg : g.1 = false) : QL sh R J b n N e g w := ⟨hL.1, hL.2.1, hL.2.2.1, ⟨h, hL.2.2.2.1⟩, fun z => by rw [hg] at z; cases z⟩
theorem LQ_of {sh : List mE} {J : Nat → Nat → Int32} {R : Nat → Nat → Option Nat} {b : Nat → Int} {n N : Nat} {l ro m ph h : Nat} {g : Bool × Nat} {I : Nat → Nat → Int32} {L : Nat → Nat → Int64} {I2 : Nat → Nat → Int32} {L2 : Nat → Nat → Int64} {h2 : Nat} {c : Int} {g2 : Bool × Nat} (hL : LQ sh R J b n N l ro m ph h g (sh, I, L, R)) (hg : g.1 = true) (hp : ph ≤ 2) (hq : QM sh R I b n N 0 h2 c g2 (sh, I2, L2, R)) (hc : 0 ≤ c) : LQ sh R J b n N l ro m ph h2 g2 (sh, I2, L2, R) := by
  have k : ∀ q k, inm mdM q k = false → I2 q k = I q k := hq.2.2.1
  have o := hL.2.2.2.2.2 hg
  refine ⟨hq.1, hq.2.1, fun q k' z => (k q k' (inm_MR z)).trans (hL.2.2.1 q k' z), ⟨⟨?_, hq.2.2.2.1.2⟩, hq.2.2.2.2.1, hq.2.2.2.2.2⟩, ?_, fun _ => ⟨fun z => ?_, fun z => ?_, fun z => ?_, fun z => ?_⟩⟩
  · have z : (I2 94 53).toInt + c ≤ (g2.2 : Int) := hq.2.2.2.1.1
    show (I2 94 53).toInt + 0 ≤ (g2.2 : Int)
    omega
  · show (I2 125 ro).toInt = (m : Int)
    rw [k 125 ro rfl]
    exact hL.2.2.2.2.1
  · show (I2 128 l).toInt.toNat = (I2 94 202).toInt.toNat
    rw [k 128 l rfl, k 94 202 rfl]
    exact o.1 z
  · show (I2 94 202).toInt.toNat = (I2 94 203).toInt.toNat
    rw [k 94 202 rfl, k 94 203 rfl]
    exact o.2.1 z
  · show (I2 129 l).toInt.toNat = (I2 94 203).toInt.toNat
    rw [k 129 l rfl, k 94 203 rfl]
    exact o.2.2.1 z
  · exfalso
    omega
theorem LQ_free {sh : List mE} {J : Nat → Nat → Int32} {R : Nat → Nat → Option Nat} {b : Nat → Int} {n N : Nat} {l ro m ph h : Nat} {g : Bool × Nat} {I : Nat → Nat → Int32} {L : Nat → Nat → Int64} {q k : Nat} {x : Int32} (hL : LQ sh R J b n N l ro m ph h g (sh, I, L, R)) (hq : q = 126 ∨ q = 127) (hw' : wOK (mkT vV []) (wE sh R) (sh, up2 I q k x, L, R)) (hf' : fresh (sh, up2 I q k x, L, R)) : LQ sh R J b n N l ro m ph h g (sh, up2 I q k x, L, R) := by
  have ne : ∀ q' k', ¬ q' = q → up2 I q k x q' k' = I q' k' := fun q' k' a => up2_ne (fun e => a e.1)
  have q94 : ¬ 94 = q := by omega
  have q125 : ¬ 125 = q := by omega
  have q128 : ¬ 128 = q := by omega
  have q129 : ¬ 129 = q := by omega
  have q130 : ¬ 130 = q := by omega
  refine ⟨hf', hw', fun q' k' z => ?_, rsM_cong (fun k' _ => ne 94 k' q94) hL.2.2.2.1, ?_, fun hg => ⟨fun z => ?_, fun z => ?_, fun z => ?_, fun z => ?_⟩⟩
  · show up2 I q k x q' k' = J q' k'
    rw [ne q' k' (fun e => by rw [e] at z; rcases hq with rfl | rfl <;> cases z)]
    exact hL.2.2.1 q' k' z
  · show (up2 I q k x 125 ro).toInt = (m : Int)
    rw [ne 125 ro q125]
    exact hL.2.2.2.2.1
  · show (up2 I q k x 128 l).toInt.toNat = (up2 I q k x 94 202).toInt.toNat
    rw [ne 128 l q128, ne 94 202 q94]
    exact (hL.2.2.2.2.2 hg).1 z
  · show (up2 I q k x 94 202).toInt.toNat = (up2 I q k x 94 203).toInt.toNat
    rw [ne 94 202 q94, ne 94 203 q94]
    exact (hL.2.2.2.2.2 hg).2.1 z
  · show (up2 I q k x 129 l).toInt.toNat = (up2 I q k x 94 203).toInt.toNat
    rw [ne 129 l q129, ne 94 203 q94]
    exact (hL.2.2.2.2.2 hg).2.2.1 z
  · show (up2 I q k x 130 l).toInt.toNat = (up2 I q k x 94 53).toInt.toNat
    rw [ne 130 l q130, ne 94 53 q94]
    exact (hL.2.2.2.2.2 hg).2.2.2 z
theorem wOK_cut {sh : List mE} {I I' : Nat → Nat → Int32} {L : Nat → Nat → Int64} {R : Nat → Nat → Option Nat} (hw : wOK (mkT vV []) (wE sh R) (sh, I, L, R)) (hr : ∀ q k, (rg (mkT vV []) q k).1 ≤ (I' q k).toInt ∧ (I' q k).toInt ≤ (rg (mkT vV []) q k).2) (m : ∀ k, ¬ k = 200 → ¬ k = 202 → ¬ k = 203 → I' 94 k = I 94 k) (rr : ∀ q, ¬ q = 94 → ¬ q = 125 → ¬ q = 128 → ¬ q = 129 → ¬ q = 130 → I' q = I q) (h2 : e2 I') : wOK (mkT vV []) (wE sh R) (sh, I', L, R) := by
  have he := hw.2.2.2.2.2.2
  exact wOK_g hw hr (e1_same (m 60 (by decide) (by decide) (by decide)) (fun k => by rw [rr 135 (by decide) (by decide) (by decide) (by decide) (by decide)]) he.1) h2 (e3_far (by unfold nv; rw [m 35 (by decide) (by decide) (by decide)]; exact Nat.le_refl _) (fun k hk => m k (by omega) (by omega) (by omega)) (fun k _ => ⟨by rw [rr 131 (by decide) (by decide) (by decide) (by decide) (by decide)], by rw [rr 132 (by decide) (by decide) (by decide) (by decide) (by decide)]⟩) he.2.2)
theorem LQ_128 {sh : List mE} {J : Nat → Nat → Int32} {R : Nat → Nat → Option Nat} {b : Nat → Int} {n N : Nat} {l ro m h : Nat} {g : Bool × Nat} {I : Nat → Nat → Int32} {L : Nat → Nat → Int64} {x : Int32} {k : Nat} (hJ : mBs J b n N) (hro : ro = nv J 94 52) (hl : l = 130 * ro + m) (hL : LQ sh R J b n N l ro m 0 h g (sh, I, L, R)) (hx : x = I 94 53) (hx9 : x.toInt ≤ 239) (hk : k = l)  : LQ sh R J b n N l ro m 1 0 g (sh, up2 (up2 (up2 (up2 I 94 202 x) 94 203 x) 94 200 0) 128 k x, L, R) := by
  subst hk
  subst hx
  obtain ⟨hf, hw, hkR, hrs, hm, hph⟩ := id hL
  have hkR : ∀ q k, inm mdRl q k = false → I q k = J q k := hkR
  have hm : (I 125 ro).toInt = (m : Int) := hm
  have hR : nv I 94 35 ≤ nv I 94 52 := by unfold nv; rw [hkR 94 35 rfl, hkR 94 52 rfl]; have := hJ.2.2.1; omega
  have e52 : nv I 94 52 = ro := by rw [hro]; unfold nv; rw [hkR 94 52 rfl]
  have e125 : nv I 125 (nv I 94 52) = m := by rw [e52]; unfold nv; omega
  have hl2 : k = 130 * nv I 94 52 + nv I 125 (nv I 94 52) := by rw [e125, e52]; exact hl
  have c94 : sh[94]? = some (.inr 12) := hw.1 94 _ rfl
  have l53 : 0 ≤ (I 94 53).toInt ∧ (I 94 53).toInt ≤ 241 := hw.2.2.1 94 53
  have l53b : (I 94 53).toInt + 0 ≤ (g.2 : Int) := hrs.1.1
  have l53c : g.2 ≤ N := hrs.1.2
  have l53d : N ≤ 240 := hJ.2.1.2
  have xb := i32b (I 94 53)
  unfold lo32 hi32 at xb
  have c128 : sh[128]? = some (.inl (.int, 2730)) := hw.1 128 _ rfl
  obtain ⟨I2, eI2⟩ : ∃ X, X = up2 (up2 (up2 (up2 I 94 202 (I 94 53)) 94 203 (I 94 53)) 94 200 0) 128 k (I 94 53) := ⟨_, rfl⟩
  rw [← eI2]
  have m94 : ∀ k, ¬ k = 200 → ¬ k = 202 → ¬ k = 203 → I2 94 k = I 94 k := fun k a1 a2 a3 => by rw [eI2, up2_ne (fun e => by cases e.1), up2_ne (fun e => a1 e.2), up2_ne (fun e => a3 e.2), up2_ne (fun e => a2 e.2)]
  have rr : ∀ q, ¬ q = 94 → ¬ q = 128 → I2 q = I q := fun q a1 a2 => funext fun k => by rw [eI2, up2_ne (fun e => a2 e.1), up2_ne (fun e => a1 e.1), up2_ne (fun e => a1 e.1), up2_ne (fun e => a1 e.1)]
  have vrow : I2 128 k = I 94 53 := by rw [eI2]; exact up2_eq
  have orow : ∀ k2, ¬ k2 = k → I2 128 k2 = I 128 k2 := fun k2 a => by rw [eI2, up2_ne (fun e => a e.2), up2_ne (fun e => by cases e.1), up2_ne (fun e => by cases e.1), up2_ne (fun e => by cases e.1)]
  have v200 : I2 94 200 = 0 := by rw [eI2, up2_ne (fun e => by cases e.1), up2_eq]
  have v202 : I2 94 202 = I 94 53 := by rw [eI2, up2_ne (fun e => by cases e.1), up2_ne (by decide), up2_ne (by decide), up2_eq]
  have v203 : I2 94 203 = I 94 53 := by rw [eI2, up2_ne (fun e => by cases e.1), up2_ne (by decide), up2_eq]
  have hr : ∀ q k, (rg (mkT vV []) q k).1 ≤ (I2 q k).toInt ∧ (I2 q k).toInt ≤ (rg (mkT vV []) q k).2 := by
    rw [eI2]
    exact (rgp (rgp (rgp (rgp hw.2.2.1 (by show (-2147483648 : Int) ≤ _; omega) (by show _ ≤ (2147483647 : Int); omega)) (by show (-2147483648 : Int) ≤ _; omega) (by show _ ≤ (2147483647 : Int); omega)) (by show (-2147483648 : Int) ≤ _; decide) (by show _ ≤ (2147483647 : Int); decide)) (by show (0 : Int) ≤ _; omega) (by show _ ≤ (239 : Int); omega))
  have cl : ∀ k2, ¬ k2 = k → I2 128 k2 = I 128 k2 ∧ I2 129 k2 = I 129 k2 ∧ I2 130 k2 = I 130 k2 := fun k2 a => ⟨orow k2 a, by rw [rr 129 (by decide) (by decide)], by rw [rr 130 (by decide) (by decide)]⟩
  have h2 : e2 I2 := e2_cut (l := k) hR hl2 (m94 35 (by decide) (by decide) (by decide)) (m94 52 (by decide) (by decide) (by decide)) (m94 53 (by decide) (by decide) (by decide)) (m94 201 (by decide) (by decide) (by decide)) (rr 125 (by decide) (by decide)) (rr 131 (by decide) (by decide)) (rr 132 (by decide) (by decide)) cl (Or.inl ⟨by unfold nv; rw [v202], by unfold nv; rw [v203], congrArg Int32.toInt v200⟩) hw.2.2.2.2.2.2.2.1
  have hf2 : fresh (sh, I2, L, R) := by rw [eI2]; exact fresh_I (fresh_gh c94 (fresh_gh c94 (fresh_gh c94 (hf)))) c128
  refine ⟨hf2, wOK_cut hw hr m94 (fun q a1 _ a2 a3 a4 => rr q a1 a2) h2, fun q k2 z => ?_, rsM_h0 (fun k2 hk2 => m94 k2 (by omega) (by omega) (by omega)) v200 hrs, ?_, fun hg2 => ?_⟩
  · show I2 q k2 = J q k2
    by_cases a : q = 94
    · rw [a] at z ⊢
      rw [m94 k2 (fun e => by rw [e] at z; cases z) (fun e => by rw [e] at z; cases z) (fun e => by rw [e] at z; cases z)]
      exact hkR 94 k2 z
    · rw [rr q a (fun e => by rw [e] at z; cases z)]
      exact hkR q k2 z
  · show (I2 125 ro).toInt = (m : Int)
    rw [rr 125 (by decide) (by decide)]
    exact hm
  · refine ⟨fun _ => ?_, fun _ => ?_, fun z => ?_, fun z => ?_⟩
    · show (I2 128 k).toInt.toNat = (I2 94 202).toInt.toNat
      rw [vrow, v202]
    · show (I2 94 202).toInt.toNat = (I2 94 203).toInt.toNat
      rw [v202, v203]
    · omega
    · omega
theorem LQ_129t {sh : List mE} {J : Nat → Nat → Int32} {R : Nat → Nat → Option Nat} {b : Nat → Int} {n N : Nat} {l ro m h : Nat} {g : Bool × Nat} {I : Nat → Nat → Int32} {L : Nat → Nat → Int64} {x : Int32} {k : Nat} (hJ : mBs J b n N) (hro : ro = nv J 94 52) (hl : l = 130 * ro + m) (hL : LQ sh R J b n N l ro m 1 h g (sh, I, L, R)) (hx : x = I 94 53)  (hk : k = l) (hg : g.1 = true) : LQ sh R J b n N l ro m 2 0 g (sh, up2 (up2 (up2 I 94 203 x) 94 200 0) 129 k x, L, R) := by
  subst hk
  subst hx
  obtain ⟨hf, hw, hkR, hrs, hm, hph⟩ := id hL
  have hkR : ∀ q k, inm mdRl q k = false → I q k = J q k := hkR
  have hm : (I 125 ro).toInt = (m : Int) := hm
  have hR : nv I 94 35 ≤ nv I 94 52 := by unfold nv; rw [hkR 94 35 rfl, hkR 94 52 rfl]; have := hJ.2.2.1; omega
  have e52 : nv I 94 52 = ro := by rw [hro]; unfold nv; rw [hkR 94 52 rfl]
  have e125 : nv I 125 (nv I 94 52) = m := by rw [e52]; unfold nv; omega
  have hl2 : k = 130 * nv I 94 52 + nv I 125 (nv I 94 52) := by rw [e125, e52]; exact hl
  have c94 : sh[94]? = some (.inr 12) := hw.1 94 _ rfl
  have l53 : 0 ≤ (I 94 53).toInt ∧ (I 94 53).toInt ≤ 241 := hw.2.2.1 94 53
  have l53b : (I 94 53).toInt + 0 ≤ (g.2 : Int) := hrs.1.1
  have l53c : g.2 ≤ N := hrs.1.2
  have l53d : N ≤ 240 := hJ.2.1.2
  have xb := i32b (I 94 53)
  unfold lo32 hi32 at xb
  have c129 : sh[129]? = some (.inl (.int, 2730)) := hw.1 129 _ rfl
  obtain ⟨I2, eI2⟩ : ∃ X, X = up2 (up2 (up2 I 94 203 (I 94 53)) 94 200 0) 129 k (I 94 53) := ⟨_, rfl⟩
  rw [← eI2]
  have m94 : ∀ k, ¬ k = 200 → ¬ k = 202 → ¬ k = 203 → I2 94 k = I 94 k := fun k a1 a2 a3 => by rw [eI2, up2_ne (fun e => by cases e.1), up2_ne (fun e => a1 e.2), up2_ne (fun e => a3 e.2)]
  have rr : ∀ q, ¬ q = 94 → ¬ q = 129 → I2 q = I q := fun q a1 a2 => funext fun k => by rw [eI2, up2_ne (fun e => a2 e.1), up2_ne (fun e => a1 e.1), up2_ne (fun e => a1 e.1)]
  have vrow : I2 129 k = I 94 53 := by rw [eI2]; exact up2_eq
  have orow : ∀ k2, ¬ k2 = k → I2 129 k2 = I 129 k2 := fun k2 a => by rw [eI2, up2_ne (fun e => a e.2), up2_ne (fun e => by cases e.1), up2_ne (fun e => by cases e.1)]
  have v200 : I2 94 200 = 0 := by rw [eI2, up2_ne (fun e => by cases e.1), up2_eq]
  have v202 : I2 94 202 = I 94 202 := by rw [eI2, up2_ne (fun e => by cases e.1), up2_ne (by decide), up2_ne (by decide)]
  have v203 : I2 94 203 = I 94 53 := by rw [eI2, up2_ne (fun e => by cases e.1), up2_ne (by decide), up2_eq]
  have hr : ∀ q k, (rg (mkT vV []) q k).1 ≤ (I2 q k).toInt ∧ (I2 q k).toInt ≤ (rg (mkT vV []) q k).2 := by
    rw [eI2]
    exact (rgp (rgp (rgp hw.2.2.1 (by show (-2147483648 : Int) ≤ _; omega) (by show _ ≤ (2147483647 : Int); omega)) (by show (-2147483648 : Int) ≤ _; decide) (by show _ ≤ (2147483647 : Int); decide)) (by show (0 : Int) ≤ _; omega) (by show _ ≤ (240 : Int); omega))
  have cl : ∀ k2, ¬ k2 = k → I2 128 k2 = I 128 k2 ∧ I2 129 k2 = I 129 k2 ∧ I2 130 k2 = I 130 k2 := fun k2 a => ⟨by rw [rr 128 (by decide) (by decide)], orow k2 a, by rw [rr 130 (by decide) (by decide)]⟩
  have h2 : e2 I2 := e2_cut (l := k) hR hl2 (m94 35 (by decide) (by decide) (by decide)) (m94 52 (by decide) (by decide) (by decide)) (m94 53 (by decide) (by decide) (by decide)) (m94 201 (by decide) (by decide) (by decide)) (rr 125 (by decide) (by decide)) (rr 131 (by decide) (by decide)) (rr 132 (by decide) (by decide)) cl (Or.inr (Or.inl ⟨(hph hg).2.1 rfl, by unfold nv; rw [v202], by unfold nv; rw [v203], congrArg Int32.toInt v200⟩)) hw.2.2.2.2.2.2.2.1
  have hf2 : fresh (sh, I2, L, R) := by rw [eI2]; exact fresh_I (fresh_gh c94 (fresh_gh c94 (hf))) c129
  refine ⟨hf2, wOK_cut hw hr m94 (fun q a1 _ a2 a3 a4 => rr q a1 a3) h2, fun q k2 z => ?_, rsM_h0 (fun k2 hk2 => m94 k2 (by omega) (by omega) (by omega)) v200 hrs, ?_, fun hg2 => ?_⟩
  · show I2 q k2 = J q k2
    by_cases a : q = 94
    · rw [a] at z ⊢
      rw [m94 k2 (fun e => by rw [e] at z; cases z) (fun e => by rw [e] at z; cases z) (fun e => by rw [e] at z; cases z)]
      exact hkR 94 k2 z
    · rw [rr q a (fun e => by rw [e] at z; cases z)]
      exact hkR q k2 z
  · show (I2 125 ro).toInt = (m : Int)
    rw [rr 125 (by decide) (by decide)]
    exact hm
  · refine ⟨fun _ => ?_, fun z => ?_, fun _ => ?_, fun z => ?_⟩
    · show (I2 128 k).toInt.toNat = (I2 94 202).toInt.toNat
      rw [rr 128 (by decide) (by decide), v202]
      exact (hph hg).1 (by decide)
    · omega
    · show (I2 129 k).toInt.toNat = (I2 94 203).toInt.toNat
      rw [vrow, v203]
    · omega
theorem LQ_129f {sh : List mE} {J : Nat → Nat → Int32} {R : Nat → Nat → Option Nat} {b : Nat → Int} {n N : Nat} {l ro m h : Nat} {g : Bool × Nat} {I : Nat → Nat → Int32} {L : Nat → Nat → Int64} {x : Int32} {k : Nat} (hJ : mBs J b n N) (hro : ro = nv J 94 52) (hl : l = 130 * ro + m) (hL : LQ sh R J b n N l ro m 1 h g (sh, I, L, R)) (hx : x = I 94 53)  (hk : k = l) (hg : g.1 = false) : LQ sh R J b n N l ro m 2 h g (sh, up2 I 129 k x, L, R) := by
  subst hk
  subst hx
  obtain ⟨hf, hw, hkR, hrs, hm, hph⟩ := id hL
  have hkR : ∀ q k, inm mdRl q k = false → I q k = J q k := hkR
  have hm : (I 125 ro).toInt = (m : Int) := hm
  have hR : nv I 94 35 ≤ nv I 94 52 := by unfold nv; rw [hkR 94 35 rfl, hkR 94 52 rfl]; have := hJ.2.2.1; omega
  have e52 : nv I 94 52 = ro := by rw [hro]; unfold nv; rw [hkR 94 52 rfl]
  have e125 : nv I 125 (nv I 94 52) = m := by rw [e52]; unfold nv; omega
  have hl2 : k = 130 * nv I 94 52 + nv I 125 (nv I 94 52) := by rw [e125, e52]; exact hl
  have c94 : sh[94]? = some (.inr 12) := hw.1 94 _ rfl
  have l53 : 0 ≤ (I 94 53).toInt ∧ (I 94 53).toInt ≤ 241 := hw.2.2.1 94 53
  have l53b : (I 94 53).toInt + 0 ≤ (g.2 : Int) := hrs.1.1
  have l53c : g.2 ≤ N := hrs.1.2
  have l53d : N ≤ 240 := hJ.2.1.2
  have xb := i32b (I 94 53)
  unfold lo32 hi32 at xb
  have c129 : sh[129]? = some (.inl (.int, 2730)) := hw.1 129 _ rfl
  obtain ⟨I2, eI2⟩ : ∃ X, X = up2 I 129 k (I 94 53) := ⟨_, rfl⟩
  rw [← eI2]
  have m94 : ∀ k, ¬ k = 200 → ¬ k = 202 → ¬ k = 203 → I2 94 k = I 94 k := fun k a1 a2 a3 => by rw [eI2, up2_ne (fun e => by cases e.1)]
  have rr : ∀ q, ¬ q = 94 → ¬ q = 129 → I2 q = I q := fun q a1 a2 => funext fun k => by rw [eI2, up2_ne (fun e => a2 e.1)]
  have vrow : I2 129 k = I 94 53 := by rw [eI2]; exact up2_eq
  have orow : ∀ k2, ¬ k2 = k → I2 129 k2 = I 129 k2 := fun k2 a => by rw [eI2, up2_ne (fun e => a e.2)]
  have v200 : I2 94 200 = I 94 200 := by rw [eI2, up2_ne (fun e => by cases e.1)]
  have v202 : I2 94 202 = I 94 202 := by rw [eI2, up2_ne (fun e => by cases e.1)]
  have v203 : I2 94 203 = I 94 203 := by rw [eI2, up2_ne (fun e => by cases e.1)]
  have hr : ∀ q k, (rg (mkT vV []) q k).1 ≤ (I2 q k).toInt ∧ (I2 q k).toInt ≤ (rg (mkT vV []) q k).2 := by
    rw [eI2]
    exact (rgp hw.2.2.1 (by show (0 : Int) ≤ _; omega) (by show _ ≤ (240 : Int); omega))
  have cl : ∀ k2, ¬ k2 = k → I2 128 k2 = I 128 k2 ∧ I2 129 k2 = I 129 k2 ∧ I2 130 k2 = I 130 k2 := fun k2 a => ⟨by rw [rr 128 (by decide) (by decide)], orow k2 a, by rw [rr 130 (by decide) (by decide)]⟩
  have h2 : e2 I2 := e2_off (ro := ro) (by rw [← e52]; exact hR) (m94 35 (by decide) (by decide) (by decide)) (fun k2 _ => by rw [rr 125 (by decide) (by decide)]) (fun k2 z => cl k2 (by omega)) (fun k2 _ => ⟨by rw [rr 131 (by decide) (by decide)], by rw [rr 132 (by decide) (by decide)]⟩) (by unfold zv; rw [m94 201 (by decide) (by decide) (by decide)]; exact (hrs.2.2 hg).2.1) hw.2.2.2.2.2.2.2.1
  have hf2 : fresh (sh, I2, L, R) := by rw [eI2]; exact fresh_I (hf) c129
  refine ⟨hf2, wOK_cut hw hr m94 (fun q a1 _ a2 a3 a4 => rr q a1 a3) h2, fun q k2 z => ?_, rsM_cong (fun k2 _ => by show I2 94 k2 = I 94 k2; rw [eI2, up2_ne (fun e => by cases e.1)]) hrs, ?_, fun hg2 => ?_⟩
  · show I2 q k2 = J q k2
    by_cases a : q = 94
    · rw [a] at z ⊢
      rw [m94 k2 (fun e => by rw [e] at z; cases z) (fun e => by rw [e] at z; cases z) (fun e => by rw [e] at z; cases z)]
      exact hkR 94 k2 z
    · rw [rr q a (fun e => by rw [e] at z; cases z)]
      exact hkR q k2 z
  · show (I2 125 ro).toInt = (m : Int)
    rw [rr 125 (by decide) (by decide)]
    exact hm
  · rw [hg] at hg2
    cases hg2
theorem LQ_130 {sh : List mE} {J : Nat → Nat → Int32} {R : Nat → Nat → Option Nat} {b : Nat → Int} {n N : Nat} {l ro m h : Nat} {g : Bool × Nat} {I : Nat → Nat → Int32} {L : Nat → Nat → Int64} {x : Int32} {k : Nat} (hJ : mBs J b n N) (hro : ro = nv J 94 52) (hl : l = 130 * ro + m) (hL : LQ sh R J b n N l ro m 2 h g (sh, I, L, R)) (hx : x = I 94 53)  (hk : k = l)  : LQ sh R J b n N l ro m 3 h g (sh, up2 I 130 k x, L, R) := by
  subst hk
  subst hx
  obtain ⟨hf, hw, hkR, hrs, hm, hph⟩ := id hL
  have hkR : ∀ q k, inm mdRl q k = false → I q k = J q k := hkR
  have hm : (I 125 ro).toInt = (m : Int) := hm
  have hR : nv I 94 35 ≤ nv I 94 52 := by unfold nv; rw [hkR 94 35 rfl, hkR 94 52 rfl]; have := hJ.2.2.1; omega
  have e52 : nv I 94 52 = ro := by rw [hro]; unfold nv; rw [hkR 94 52 rfl]
  have e125 : nv I 125 (nv I 94 52) = m := by rw [e52]; unfold nv; omega
  have hl2 : k = 130 * nv I 94 52 + nv I 125 (nv I 94 52) := by rw [e125, e52]; exact hl
  have c94 : sh[94]? = some (.inr 12) := hw.1 94 _ rfl
  have l53 : 0 ≤ (I 94 53).toInt ∧ (I 94 53).toInt ≤ 241 := hw.2.2.1 94 53
  have l53b : (I 94 53).toInt + 0 ≤ (g.2 : Int) := hrs.1.1
  have l53c : g.2 ≤ N := hrs.1.2
  have l53d : N ≤ 240 := hJ.2.1.2
  have xb := i32b (I 94 53)
  unfold lo32 hi32 at xb
  have c130 : sh[130]? = some (.inl (.int, 2730)) := hw.1 130 _ rfl
  obtain ⟨I2, eI2⟩ : ∃ X, X = up2 I 130 k (I 94 53) := ⟨_, rfl⟩
  rw [← eI2]
  have m94 : ∀ k, ¬ k = 200 → ¬ k = 202 → ¬ k = 203 → I2 94 k = I 94 k := fun k a1 a2 a3 => by rw [eI2, up2_ne (fun e => by cases e.1)]
  have rr : ∀ q, ¬ q = 94 → ¬ q = 130 → I2 q = I q := fun q a1 a2 => funext fun k => by rw [eI2, up2_ne (fun e => a2 e.1)]
  have vrow : I2 130 k = I 94 53 := by rw [eI2]; exact up2_eq
  have orow : ∀ k2, ¬ k2 = k → I2 130 k2 = I 130 k2 := fun k2 a => by rw [eI2, up2_ne (fun e => a e.2)]
  have v200 : I2 94 200 = I 94 200 := by rw [eI2, up2_ne (fun e => by cases e.1)]
  have v202 : I2 94 202 = I 94 202 := by rw [eI2, up2_ne (fun e => by cases e.1)]
  have v203 : I2 94 203 = I 94 203 := by rw [eI2, up2_ne (fun e => by cases e.1)]
  have hr : ∀ q k, (rg (mkT vV []) q k).1 ≤ (I2 q k).toInt ∧ (I2 q k).toInt ≤ (rg (mkT vV []) q k).2 := by
    rw [eI2]
    exact (rgp hw.2.2.1 (by show (0 : Int) ≤ _; omega) (by show _ ≤ (240 : Int); omega))
  have cl : ∀ k2, ¬ k2 = k → I2 128 k2 = I 128 k2 ∧ I2 129 k2 = I 129 k2 ∧ I2 130 k2 = I 130 k2 := fun k2 a => ⟨by rw [rr 128 (by decide) (by decide)], by rw [rr 129 (by decide) (by decide)], orow k2 a⟩
  have h2 : e2 I2 := by
    cases e : g.1 with
    | true => exact e2_cut (l := k) hR hl2 (m94 35 (by decide) (by decide) (by decide)) (m94 52 (by decide) (by decide) (by decide)) (m94 53 (by decide) (by decide) (by decide)) (m94 201 (by decide) (by decide) (by decide)) (rr 125 (by decide) (by decide)) (rr 131 (by decide) (by decide)) (rr 132 (by decide) (by decide)) cl (Or.inr (Or.inr ⟨v202, v203, v200⟩)) hw.2.2.2.2.2.2.2.1
    | false => exact e2_off (ro := ro) (by rw [← e52]; exact hR) (m94 35 (by decide) (by decide) (by decide)) (fun k2 _ => by rw [rr 125 (by decide) (by decide)]) (fun k2 z => cl k2 (by omega)) (fun k2 _ => ⟨by rw [rr 131 (by decide) (by decide)], by rw [rr 132 (by decide) (by decide)]⟩) (by unfold zv; rw [m94 201 (by decide) (by decide) (by decide)]; exact (hrs.2.2 e).2.1) hw.2.2.2.2.2.2.2.1
  have hf2 : fresh (sh, I2, L, R) := by rw [eI2]; exact fresh_I (hf) c130
  refine ⟨hf2, wOK_cut hw hr m94 (fun q a1 _ a2 a3 a4 => rr q a1 a4) h2, fun q k2 z => ?_, rsM_cong (fun k2 _ => by show I2 94 k2 = I 94 k2; rw [eI2, up2_ne (fun e => by cases e.1)]) hrs, ?_, fun hg2 => ?_⟩
  · show I2 q k2 = J q k2
    by_cases a : q = 94
    · rw [a] at z ⊢
      rw [m94 k2 (fun e => by rw [e] at z; cases z) (fun e => by rw [e] at z; cases z) (fun e => by rw [e] at z; cases z)]
      exact hkR 94 k2 z
    · rw [rr q a (fun e => by rw [e] at z; cases z)]
      exact hkR q k2 z
  · show (I2 125 ro).toInt = (m : Int)
    rw [rr 125 (by decide) (by decide)]
    exact hm
  · refine ⟨fun _ => ?_, fun z => ?_, fun _ => ?_, fun _ => ?_⟩
    · show (I2 128 k).toInt.toNat = (I2 94 202).toInt.toNat
      rw [rr 128 (by decide) (by decide), v202]
      exact (hph hg2).1 (by decide)
    · omega
    · show (I2 129 k).toInt.toNat = (I2 94 203).toInt.toNat
      rw [rr 129 (by decide) (by decide), v203]
      exact (hph hg2).2.2.1 (by decide)
    · show (I2 130 k).toInt.toNat = (I2 94 53).toInt.toNat
      rw [vrow, m94 53 (by decide) (by decide) (by decide)]
theorem LQ_125 {sh : List mE} {J : Nat → Nat → Int32} {R : Nat → Nat → Option Nat} {b : Nat → Int} {n N : Nat} {l ro m h : Nat} {g : Bool × Nat} {I : Nat → Nat → Int32} {L : Nat → Nat → Int64} {x : Int32} {k : Nat} {e : Int} (hJ : mBs J b n N) (hro : ro = nv J 94 52) (hl : l = 130 * ro + m) (hL : LQ sh R J b n N l ro m 3 h g (sh, I, L, R)) (hx : x.toInt = (m : Int) + 1) (hm1 : m < 130) (hk : k = ro) (he : 2 * ((m : Int) + 1) ≤ (g.2 : Int) + e) : QL sh R J b n N e g (sh, up2 I 125 k x, L, R) := by
  subst hk
  obtain ⟨hf, hw, hkR, hrs, hm, hph⟩ := id hL
  have hkR : ∀ q k, inm mdRl q k = false → I q k = J q k := hkR
  have hm : (I 125 k).toInt = (m : Int) := hm
  have hR : nv I 94 35 ≤ nv I 94 52 := by unfold nv; rw [hkR 94 35 rfl, hkR 94 52 rfl]; have := hJ.2.2.1; omega
  have e52 : nv I 94 52 = k := by rw [hro]; unfold nv; rw [hkR 94 52 rfl]
  have e125 : nv I 125 (nv I 94 52) = m := by rw [e52]; unfold nv; omega
  have hl2 : l = 130 * nv I 94 52 + nv I 125 (nv I 94 52) := by rw [e125, e52]; exact hl
  have c94 : sh[94]? = some (.inr 12) := hw.1 94 _ rfl
  have l53 : 0 ≤ (I 94 53).toInt ∧ (I 94 53).toInt ≤ 241 := hw.2.2.1 94 53
  have l53b : (I 94 53).toInt + 0 ≤ (g.2 : Int) := hrs.1.1
  have l53c : g.2 ≤ N := hrs.1.2
  have l53d : N ≤ 240 := hJ.2.1.2
  have xb := i32b (I 94 53)
  unfold lo32 hi32 at xb
  have c125 : sh[125]? = some (.inl (.int, 21)) := hw.1 125 _ rfl
  obtain ⟨I2, eI2⟩ : ∃ X, X = up2 I 125 k x := ⟨_, rfl⟩
  rw [← eI2]
  have m94 : ∀ k2, I2 94 k2 = I 94 k2 := fun k2 => by rw [eI2, up2_ne (fun e => by cases e.1)]
  have rr : ∀ q, ¬ q = 125 → I2 q = I q := fun q a => funext fun k2 => by rw [eI2, up2_ne (fun e => a e.1)]
  have v125 : I2 125 k = x := by rw [eI2]; exact up2_eq
  have o125 : ∀ k2, ¬ k2 = k → I2 125 k2 = I 125 k2 := fun k2 a => by rw [eI2, up2_ne (fun e => a e.2)]
  have hr : ∀ q k, (rg (mkT vV []) q k).1 ≤ (I2 q k).toInt ∧ (I2 q k).toInt ≤ (rg (mkT vV []) q k).2 := by
    rw [eI2]
    exact rgp hw.2.2.1 (by show (0 : Int) ≤ _; omega) (by show _ ≤ (240 : Int); omega)
  have h2 : e2 I2 := by
    cases eg : g.1 with
    | true =>
      refine e2_line (l := l) hR hl2 (by rw [e125]; exact hm1) ((hph eg).1 (by decide)) ((hph eg).2.2.1 (by decide)) ((hph eg).2.2.2 (by decide)) (rr 94 (by decide)) (fun q _ a => rr q a) (fun k2 a => o125 k2 (fun z => a (by rw [e52]; exact z))) ?_ hw.2.2.2.2.2.2.2.1
      rw [e125, e52]
      unfold nv
      rw [v125]
      omega
    | false => exact e2_off (ro := k) (by rw [← e52]; exact hR) (m94 35) (fun k2 z => o125 k2 (by omega)) (fun k2 _ => ⟨by rw [rr 128 (by decide)], by rw [rr 129 (by decide)], by rw [rr 130 (by decide)]⟩) (fun k2 _ => ⟨by rw [rr 131 (by decide)], by rw [rr 132 (by decide)]⟩) (by unfold zv; rw [m94 201]; exact (hrs.2.2 eg).2.1) hw.2.2.2.2.2.2.2.1
  have hf2 : fresh (sh, I2, L, R) := by rw [eI2]; exact fresh_I hf c125
  refine ⟨hf2, wOK_cut hw hr (fun k2 _ _ _ => m94 k2) (fun q _ a _ _ _ => rr q a) h2, fun q k2 z => ?_, ⟨h, rsM_cong (fun k2 _ => m94 k2) hrs⟩, fun _ => ?_⟩
  · show I2 q k2 = J q k2
    rw [rr q (fun e => by rw [e] at z; cases z)]
    exact hkR q k2 z
  · show 2 * (I2 125 (nv J 94 52)).toInt ≤ (g.2 : Int) + e
    rw [← hro, v125]
    omega
theorem LQ_t {sh : List mE} {J : Nat → Nat → Int32} {R : Nat → Nat → Option Nat} {b : Nat → Int} {n N : Nat} {l ro m ph h : Nat} {g : Bool × Nat} {w : mW} (e : g.1 = true) (hL : LQ sh R J b n N l ro m ph h g w) : LQ sh R J b n N l ro m ph h (true, g.2) w := by
  have eg : g = (true, g.2) := Prod.ext e rfl
  rw [← eg]
  exact hL
theorem tc_lineM {d i : Nat} {sh : List mE} {J : Nat → Nat → Int32} {R : Nat → Nat → Option Nat} {b : Nat → Int} {n N : Nat} {I : Nat → Nat → Int32} {L : Nat → Nat → Int64} (hJ : mBs J b n N) (hQ : QL sh R J b n N 0 (true, i) (sh, I, L, R)) : Tc 281 (d + 4 + (6 * (8 - 0) + 7)) 0 0 [.ref 94] (sh, I, L, R) (QLT sh R J b n N 1 (gLn (tK b n) 3000 i)) := by
  obtain ⟨hf, hw, hkR, ⟨h, hrs⟩, hln⟩ := id hQ
  have hkR : ∀ q k, inm mdRl q k = false → I q k = J q k := hkR
  have hln : 2 * (I 125 (nv J 94 52)).toInt ≤ (i : Int) + 0 := hln rfl
  have hst : mStt b n N I 0 h i := hrs.2.1 rfl
  have hle : i ≤ N := hst.2.2.2.2.2
  have hN := hJ.2.1.1
  have hN2 := hJ.2.1.2
  have hlt : ¬ tK b n i = 302 → i < N := lt_N hN hle
  have hB : mBs I b n N := mBs_keep hkR hJ
  have hq : QM sh R I b n N 0 h 0 (true, i) (sh, I, L, R) := ⟨hf, hw, fun _ _ _ => rfl, hrs⟩
  have hro : 0 ≤ (I 94 52).toInt ∧ (I 94 52).toInt ≤ 19 := hw.2.2.1 94 52
  obtain ⟨ro, ero⟩ : ∃ z : Int32, I 94 52 = z := ⟨_, rfl⟩
  rw [ero] at hro
  have ern : (ro).toNatClampNeg = nv J 94 52 := by show ro.toInt.toNat = (J 94 52).toInt.toNat; rw [← ero, hkR 94 52 rfl]
  have hmr : 0 ≤ (I 125 (ro).toNatClampNeg).toInt ∧ (I 125 (ro).toNatClampNeg).toInt ≤ 240 := hw.2.2.1 125 (ro).toNatClampNeg
  rw [← ern] at hln
  obtain ⟨mv, emv⟩ : ∃ z : Int32, I 125 (ro).toNatClampNeg = z := ⟨_, rfl⟩
  rw [emv] at hmr hln
  have hL0 : LQ sh R J b n N (130 * nv J 94 52 + mv.toInt.toNat) (nv J 94 52) mv.toInt.toNat 0 h (true, i) (sh, I, L, R) := ⟨hf, hw, hkR, hrs, by show (I 125 (nv J 94 52)).toInt = _; rw [← ern, emv]; omega, fun _ => ⟨fun z => (by omega), fun z => (by omega), fun z => (by omega), fun z => (by omega)⟩⟩
  have c94 : sh[94]? = some (.inr 12) := hw.1 94 _ rfl
  have c125 : sh[125]? = some (.inl (.int, 21)) := hw.1 125 _ rfl
  have c126 : sh[126]? = some (.inl (.int, 2730)) := hw.1 126 _ rfl
  have c127 : sh[127]? = some (.inl (.int, 2730)) := hw.1 127 _ rfl
  have c128 : sh[128]? = some (.inl (.int, 2730)) := hw.1 128 _ rfl
  have c129 : sh[129]? = some (.inl (.int, 2730)) := hw.1 129 _ rfl
  have c130 : sh[130]? = some (.inl (.int, 2730)) := hw.1 130 _ rfl
  have r94_38 : R 94 38 = some 125 := hw.2.1 94 38 _ rfl
  have r94_39 : R 94 39 = some 126 := hw.2.1 94 39 _ rfl
  have r94_40 : R 94 40 = some 127 := hw.2.1 94 40 _ rfl
  have r94_41 : R 94 41 = some 128 := hw.2.1 94 41 _ rfl
  have r94_42 : R 94 42 = some 129 := hw.2.1 94 42 _ rfl
  have r94_43 : R 94 43 = some 130 := hw.2.1 94 43 _ rfl
  have zm1 : ((-1) : Int32).toInt = (-1) := rfl
  have z0 : (0 : Int32).toInt = 0 := rfl
  have z1 : (1 : Int32).toInt = 1 := rfl
  have z2 : (2 : Int32).toInt = 2 := rfl
  have z3 : (3 : Int32).toInt = 3 := rfl
  have z130 : (130 : Int32).toInt = 130 := rfl
  refine Tc.of mr_281 rfl (show 1 ≤ mr_281.2.2.2.1 by decide) ?_
  refine XW.fam (S' := (3, [(0, .ref 94)], [.int 130], (sh, I, L, R))) (M := mr_281) rfl (show mcode 281 0 = some (0, .sipush 130, 3, 0, 0, 0, _) from rfl) (Or.inl ⟨.int 130, rfl, rfl⟩) ?_
  refine XW.fam (S' := (4, [(0, .ref 94)], [.ref 94, .int 130], (sh, I, L, R))) (M := mr_281) rfl (show mcode 281 3 = some (3, .aload_n 0, 1, 0, 0, 0, _) from rfl) (Or.inl ⟨.ref 94, rfl, rfl⟩) ?_
  refine XW.fam (S' := (7, [(0, .ref 94)], [.int (I 94 52), .int 130], (sh, I, L, R))) (M := mr_281) rfl (show mcode 281 4 = some (4, .getfield 373, 3, 12, 52, 0, _) from rfl) (Or.inr (Or.inr (Or.inr (Or.inr (Or.inr (Or.inr (Or.inr (Or.inl ⟨_, _, rfl, fl_ldI c94 (by decide) (by decide), rfl⟩)))))))) ?_
  rw [ero]
  refine XW.fam (S' := (8, [(0, .ref 94)], [.int (130 * ro)], (sh, I, L, R))) (M := mr_281) rfl (show mcode 281 7 = some (7, .imul, 1, 0, 0, 0, _) from rfl) (Or.inr (Or.inr (Or.inr (Or.inr (Or.inr (Or.inl ⟨_, rfl, rfl⟩)))))) ?_
  refine XW.fam (S' := (9, [(0, .ref 94)], [.ref 94, .int (130 * ro)], (sh, I, L, R))) (M := mr_281) rfl (show mcode 281 8 = some (8, .aload_n 0, 1, 0, 0, 0, _) from rfl) (Or.inl ⟨.ref 94, rfl, rfl⟩) ?_
  refine XW.fam (S' := (12, [(0, .ref 94)], [.ref 125, .int (130 * ro)], (sh, I, L, R))) (M := mr_281) rfl (show mcode 281 9 = some (9, .getfield 106, 3, 12, 38, 0, _) from rfl) (Or.inr (Or.inr (Or.inr (Or.inr (Or.inr (Or.inr (Or.inr (Or.inl ⟨_, _, rfl, fl_ld c94 r94_38 (by decide) (by decide), rfl⟩)))))))) ?_
  refine XW.fam (S' := (13, [(0, .ref 94)], [.ref 94, .ref 125, .int (130 * ro)], (sh, I, L, R))) (M := mr_281) rfl (show mcode 281 12 = some (12, .aload_n 0, 1, 0, 0, 0, _) from rfl) (Or.inl ⟨.ref 94, rfl, rfl⟩) ?_
  refine XW.fam (S' := (16, [(0, .ref 94)], [.int (I 94 52), .ref 125, .int (130 * ro)], (sh, I, L, R))) (M := mr_281) rfl (show mcode 281 13 = some (13, .getfield 373, 3, 12, 52, 0, _) from rfl) (Or.inr (Or.inr (Or.inr (Or.inr (Or.inr (Or.inr (Or.inr (Or.inl ⟨_, _, rfl, fl_ldI c94 (by decide) (by decide), rfl⟩)))))))) ?_
  rw [ero]
  have hin1 : inR ro 21 = true := inR_of (by omega) (by omega)
  refine XW.fam (S' := (17, [(0, .ref 94)], [.int (I 125 (ro).toNatClampNeg), .int (130 * ro)], (sh, I, L, R))) (M := mr_281) rfl (show mcode 281 16 = some (16, .iaload, 1, 0, 0, 0, _) from rfl) (Or.inr (Or.inr (Or.inl ⟨_, lda_i c125 hin1, rfl⟩))) ?_
  rw [emv]
  refine XW.fam (S' := (18, [(0, .ref 94)], [.int ((130 * ro) + mv)], (sh, I, L, R))) (M := mr_281) rfl (show mcode 281 17 = some (17, .iadd, 1, 0, 0, 0, _) from rfl) (Or.inr (Or.inr (Or.inr (Or.inr (Or.inr (Or.inl ⟨_, rfl, rfl⟩)))))) ?_
  refine XW.fam (S' := (19, [(1, .int ((130 * ro) + mv)), (0, .ref 94)], [], (sh, I, L, R))) (M := mr_281) rfl (show mcode 281 18 = some (18, .istore_n 1, 1, 0, 0, 0, _) from rfl) (Or.inr (Or.inr (Or.inr (Or.inr (Or.inr (Or.inr (Or.inl ⟨_, [], _, rfl, rfl, rfl⟩))))))) ?_
  have zz130 : (130 : Int32).toInt = 130 := rfl
  have xm : (130 * ro).toInt = 130 * ro.toInt := mul_i (a := 130) (b := ro) (by show lo32 ≤ 130 * ro.toInt; unfold lo32; omega) (by show 130 * ro.toInt ≤ hi32; unfold hi32; omega)
  have xs := sumS (a := 130 * ro) (b := mv) (by omega) (by omega)
  obtain ⟨lv, elv⟩ : ∃ z : Int32, ((130 * ro) + mv) = z := ⟨_, rfl⟩
  have hlv : lv.toInt = 130 * ro.toInt + mv.toInt := by rw [← elv]; omega
  rw [elv]
  clear elv xs
  have eln : (lv).toNatClampNeg = (130 * nv J 94 52 + mv.toInt.toNat) := by rw [← ern]; show lv.toInt.toNat = 130 * ro.toInt.toNat + mv.toInt.toNat; omega
  refine XW.fam (S' := (20, [(1, .int lv), (0, .ref 94)], [.ref 94], (sh, I, L, R))) (M := mr_281) rfl (show mcode 281 19 = some (19, .aload_n 0, 1, 0, 0, 0, _) from rfl) (Or.inl ⟨.ref 94, rfl, rfl⟩) ?_
  refine XW.fam (S' := (23, [(1, .int lv), (0, .ref 94)], [.long 10167854, .ref 94], (sh, I, L, R))) (M := mr_281) rfl (show mcode 281 20 = some (20, .ldc2_w 434, 3, 0, 0, 10167854, _) from rfl) (Or.inr (Or.inr (Or.inr (Or.inr (Or.inl ⟨.long 10167854, rfl, rfl⟩))))) ?_
  refine XW.call (d' := d) (mc' := 0) (ms' := 0) (av := [.ref 94, .long 10167854]) (rest := []) (M := mr_281) (Ma := mr_282) rfl (show mcode 281 23 = some (23, .invokevirtual 391, 3, 282, 0, 0, _) from rfl) rfl (by decide) (by decide) ⟨rfl, 94, _, rfl, c94⟩ rfl rfl (show 0 ≤ 8 by decide) (tc_isM (d := d) (t := 0) hB hq (by decide) (by decide)) (by omega) (Nat.zero_le _) (Nat.zero_le _) (fun rQ2 wQ2 Q2 => ?_)
  obtain ⟨hQ2, hwQ2⟩ := Q2
  subst hwQ2
  rcases hQ2 with ⟨rfl, gQ2⟩ | ⟨rfl, gQ2⟩
  · skip
    refine XW.fam (S' := (33, [(1, .int lv), (0, .ref 94)], [], (sh, I, L, R))) (M := mr_281) rfl (show mcode 281 26 = some (26, .ifCond .eq 7, 3, 33, 0, 0, _) from rfl) (Or.inr (Or.inl ⟨33, [], rfl, rfl⟩)) ?_
    refine XW.fam (S' := (34, [(1, .int lv), (0, .ref 94)], [.ref 94], (sh, I, L, R))) (M := mr_281) rfl (show mcode 281 33 = some (33, .aload_n 0, 1, 0, 0, 0, _) from rfl) (Or.inl ⟨.ref 94, rfl, rfl⟩) ?_
    refine XW.fam (S' := (37, [(1, .int lv), (0, .ref 94)], [.long 9176, .ref 94], (sh, I, L, R))) (M := mr_281) rfl (show mcode 281 34 = some (34, .ldc2_w 436, 3, 0, 0, 9176, _) from rfl) (Or.inr (Or.inr (Or.inr (Or.inr (Or.inl ⟨.long 9176, rfl, rfl⟩))))) ?_
    refine XW.call (d' := d) (mc' := 0) (ms' := 0) (av := [.ref 94, .long 9176]) (rest := []) (M := mr_281) (Ma := mr_282) rfl (show mcode 281 37 = some (37, .invokevirtual 391, 3, 282, 0, 0, _) from rfl) rfl (by decide) (by decide) ⟨rfl, 94, _, rfl, c94⟩ rfl rfl (show 0 ≤ 8 by decide) (tc_isM (d := d) (t := 1) hB hq (by decide) (by decide)) (by omega) (Nat.zero_le _) (Nat.zero_le _) (fun rQ3 wQ3 Q3 => ?_)
    obtain ⟨hQ3, hwQ3⟩ := Q3
    subst hwQ3
    rcases hQ3 with ⟨rfl, gQ3⟩ | ⟨rfl, gQ3⟩
    · skip
      refine XW.fam (S' := (47, [(1, .int lv), (0, .ref 94)], [], (sh, I, L, R))) (M := mr_281) rfl (show mcode 281 40 = some (40, .ifCond .eq 7, 3, 47, 0, 0, _) from rfl) (Or.inr (Or.inl ⟨47, [], rfl, rfl⟩)) ?_
      refine XW.fam (S' := (48, [(1, .int lv), (0, .ref 94)], [.ref 94], (sh, I, L, R))) (M := mr_281) rfl (show mcode 281 47 = some (47, .aload_n 0, 1, 0, 0, 0, _) from rfl) (Or.inl ⟨.ref 94, rfl, rfl⟩) ?_
      refine XW.fam (S' := (51, [(1, .int lv), (0, .ref 94)], [.long 388609, .ref 94], (sh, I, L, R))) (M := mr_281) rfl (show mcode 281 48 = some (48, .ldc2_w 438, 3, 0, 0, 388609, _) from rfl) (Or.inr (Or.inr (Or.inr (Or.inr (Or.inl ⟨.long 388609, rfl, rfl⟩))))) ?_
      refine XW.call (d' := d) (mc' := 0) (ms' := 0) (av := [.ref 94, .long 388609]) (rest := []) (M := mr_281) (Ma := mr_282) rfl (show mcode 281 51 = some (51, .invokevirtual 391, 3, 282, 0, 0, _) from rfl) rfl (by decide) (by decide) ⟨rfl, 94, _, rfl, c94⟩ rfl rfl (show 0 ≤ 8 by decide) (tc_isM (d := d) (t := 2) hB hq (by decide) (by decide)) (by omega) (Nat.zero_le _) (Nat.zero_le _) (fun rQ4 wQ4 Q4 => ?_)
      obtain ⟨hQ4, hwQ4⟩ := Q4
      subst hwQ4
      rcases hQ4 with ⟨rfl, gQ4⟩ | ⟨rfl, gQ4⟩
      · skip
        refine XW.fam (S' := (61, [(1, .int lv), (0, .ref 94)], [], (sh, I, L, R))) (M := mr_281) rfl (show mcode 281 54 = some (54, .ifCond .eq 7, 3, 61, 0, 0, _) from rfl) (Or.inr (Or.inl ⟨61, [], rfl, rfl⟩)) ?_
        refine XW.fam (S' := (62, [(1, .int lv), (0, .ref 94)], [.ref 94], (sh, I, L, R))) (M := mr_281) rfl (show mcode 281 61 = some (61, .aload_n 0, 1, 0, 0, 0, _) from rfl) (Or.inl ⟨.ref 94, rfl, rfl⟩) ?_
        refine XW.fam (S' := (65, [(1, .int lv), (0, .ref 94)], [.long 326369, .ref 94], (sh, I, L, R))) (M := mr_281) rfl (show mcode 281 62 = some (62, .ldc2_w 440, 3, 0, 0, 326369, _) from rfl) (Or.inr (Or.inr (Or.inr (Or.inr (Or.inl ⟨.long 326369, rfl, rfl⟩))))) ?_
        refine XW.call (d' := d) (mc' := 0) (ms' := 0) (av := [.ref 94, .long 326369]) (rest := []) (M := mr_281) (Ma := mr_282) rfl (show mcode 281 65 = some (65, .invokevirtual 391, 3, 282, 0, 0, _) from rfl) rfl (by decide) (by decide) ⟨rfl, 94, _, rfl, c94⟩ rfl rfl (show 0 ≤ 8 by decide) (tc_isM (d := d) (t := 3) hB hq (by decide) (by decide)) (by omega) (Nat.zero_le _) (Nat.zero_le _) (fun rQ5 wQ5 Q5 => ?_)
        obtain ⟨hQ5, hwQ5⟩ := Q5
        subst hwQ5
        rcases hQ5 with ⟨rfl, gQ5⟩ | ⟨rfl, gQ5⟩
        · skip
          refine XW.fam (S' := (75, [(1, .int lv), (0, .ref 94)], [], (sh, I, L, R))) (M := mr_281) rfl (show mcode 281 68 = some (68, .ifCond .eq 7, 3, 75, 0, 0, _) from rfl) (Or.inr (Or.inl ⟨75, [], rfl, rfl⟩)) ?_
          refine XW.fam (S' := (76, [(1, .int lv), (0, .ref 94)], [.int (-1)], (sh, I, L, R))) (M := mr_281) rfl (show mcode 281 75 = some (75, .iconst (-1), 1, 0, 0, 0, _) from rfl) (Or.inl ⟨.int (-1), rfl, rfl⟩) ?_
          refine XW.fam (S' := (77, [(2, .int (-1)), (1, .int lv), (0, .ref 94)], [], (sh, I, L, R))) (M := mr_281) rfl (show mcode 281 76 = some (76, .istore_n 2, 1, 0, 0, 0, _) from rfl) (Or.inr (Or.inr (Or.inr (Or.inr (Or.inr (Or.inr (Or.inl ⟨_, [], _, rfl, rfl, rfl⟩))))))) ?_
          refine XW.fam (S' := (78, [(2, .int (-1)), (1, .int lv), (0, .ref 94)], [.int (-1)], (sh, I, L, R))) (M := mr_281) rfl (show mcode 281 77 = some (77, .iload_n 2, 1, 0, 0, 0, _) from rfl) (Or.inl ⟨.int (-1), rfl, rfl⟩) ?_
          refine XW.fam (S' := (81, [(2, .int (-1)), (1, .int lv), (0, .ref 94)], [], (sh, I, L, R))) (M := mr_281) rfl (show mcode 281 78 = some (78, .ifCond .ge 8, 3, 86, 0, 0, _) from rfl) (Or.inr (Or.inl ⟨81, [], rfl, rfl⟩)) ?_
          refine XW.fam (S' := (82, [(2, .int (-1)), (1, .int lv), (0, .ref 94)], [.ref 94], (sh, I, L, R))) (M := mr_281) rfl (show mcode 281 81 = some (81, .aload_n 0, 1, 0, 0, 0, _) from rfl) (Or.inl ⟨.ref 94, rfl, rfl⟩) ?_
          refine XW.call (d' := d) (mc' := 0) (ms' := 0) (av := [.ref 94]) (rest := []) (M := mr_281) (Ma := mr_283) rfl (show mcode 281 82 = some (82, .invokevirtual 382, 3, 283, 0, 0, _) from rfl) rfl (by decide) (by decide) ⟨rfl, 94, _, rfl, c94⟩ rfl rfl (show 0 ≤ 8 by decide) (tc_wrM (d := d) (h2 := 0) hB hq) (by omega) (Nat.zero_le _) (Nat.zero_le _) (fun rQ6 wQ6 Q6 => ?_)
          obtain ⟨hrQ6, hqQ6⟩ := Q6
          subst hrQ6
          obtain ⟨shQ6, IQ6, LQ6, RQ6⟩ := wQ6
          obtain rfl : sh = shQ6 := hqQ6.2.1.2.2.2.1.symm
          obtain rfl : R = RQ6 := hqQ6.2.1.2.2.2.2.1.symm
          have hL7 : LQ sh R J b n N (130 * nv J 94 52 + mv.toInt.toNat) (nv J 94 52) mv.toInt.toNat 0 0 (false, i) (sh, IQ6, LQ6, R) := LQ_of hL0 rfl (by decide) hqQ6 (Int.le_refl _)
          refine XW.ret (r := none) ⟨rfl, by decide +kernel⟩ ?_
          have eL : gLn (tK b n) 3000 i = (false, i) := by
            unfold gLn
            rw [if_pos (by omega)]
          rw [eL]
          exact ⟨rfl, QL_f hL7 rfl⟩
        · skip
          refine XW.fam (S' := (71, [(1, .int lv), (0, .ref 94)], [], (sh, I, L, R))) (M := mr_281) rfl (show mcode 281 68 = some (68, .ifCond .eq 7, 3, 75, 0, 0, _) from rfl) (Or.inr (Or.inl ⟨71, [], rfl, rfl⟩)) ?_
          refine XW.fam (S' := (72, [(1, .int lv), (0, .ref 94)], [.int 3], (sh, I, L, R))) (M := mr_281) rfl (show mcode 281 71 = some (71, .iconst 3, 1, 0, 0, 0, _) from rfl) (Or.inl ⟨.int 3, rfl, rfl⟩) ?_
          refine XW.fam (S' := (76, [(1, .int lv), (0, .ref 94)], [.int 3], (sh, I, L, R))) (M := mr_281) rfl (show mcode 281 72 = some (72, .goto 4, 3, 76, 0, 0, _) from rfl) (Or.inr (Or.inl ⟨76, [.int 3], rfl, rfl⟩)) ?_
          refine XW.fam (S' := (77, [(2, .int 3), (1, .int lv), (0, .ref 94)], [], (sh, I, L, R))) (M := mr_281) rfl (show mcode 281 76 = some (76, .istore_n 2, 1, 0, 0, 0, _) from rfl) (Or.inr (Or.inr (Or.inr (Or.inr (Or.inr (Or.inr (Or.inl ⟨_, [], _, rfl, rfl, rfl⟩))))))) ?_
          refine XW.fam (S' := (78, [(2, .int 3), (1, .int lv), (0, .ref 94)], [.int 3], (sh, I, L, R))) (M := mr_281) rfl (show mcode 281 77 = some (77, .iload_n 2, 1, 0, 0, 0, _) from rfl) (Or.inl ⟨.int 3, rfl, rfl⟩) ?_
          refine XW.fam (S' := (86, [(2, .int 3), (1, .int lv), (0, .ref 94)], [], (sh, I, L, R))) (M := mr_281) rfl (show mcode 281 78 = some (78, .ifCond .ge 8, 3, 86, 0, 0, _) from rfl) (Or.inr (Or.inl ⟨86, [], rfl, rfl⟩)) ?_
          refine XW.fam (S' := (87, [(2, .int 3), (1, .int lv), (0, .ref 94)], [.ref 94], (sh, I, L, R))) (M := mr_281) rfl (show mcode 281 86 = some (86, .aload_n 0, 1, 0, 0, 0, _) from rfl) (Or.inl ⟨.ref 94, rfl, rfl⟩) ?_
          refine XW.call (d' := d + 2) (mc' := 0) (ms' := 0) (av := [.ref 94]) (rest := []) (M := mr_281) (Ma := mr_278) rfl (show mcode 281 87 = some (87, .invokevirtual 385, 3, 278, 0, 0, _) from rfl) rfl (by decide) (by decide) ⟨rfl, 94, _, rfl, c94⟩ rfl rfl (show 0 ≤ 8 by decide) (tc_nxtM (d := d) (c2 := 1) hB hq (lt_N hN hle (by omega)) rfl) (by omega) (Nat.zero_le _) (Nat.zero_le _) (fun rQ8 wQ8 Q8 => ?_)
          obtain ⟨hrQ8, hqQ8⟩ := Q8
          subst hrQ8
          obtain ⟨shQ8, IQ8, LQ8, RQ8⟩ := wQ8
          obtain rfl : sh = shQ8 := hqQ8.2.1.2.2.2.1.symm
          obtain rfl : R = RQ8 := hqQ8.2.1.2.2.2.2.1.symm
          have hle1 : i + 1 ≤ N := lt_N hN hle (by omega)
          have hl53 : ∀ z : Int32, z = IQ8 94 53 → z.toInt ≤ 239 := by
            intro z ez
            rw [ez]
            have z1 : (IQ8 94 53).toInt + 1 ≤ ((i + 1 : Nat) : Int) := hqQ8.2.2.2.1.1
            omega
          have hL9 : LQ sh R J b n N (130 * nv J 94 52 + mv.toInt.toNat) (nv J 94 52) mv.toInt.toNat 0 h (true, i + 1) (sh, IQ8, LQ8, R) := LQ_of hL0 rfl (by decide) hqQ8 (by decide)
          refine XW.fam (S' := (91, [(2, .int 3), (1, .int lv), (0, .ref 94)], [.ref 94], (sh, IQ8, LQ8, R))) (M := mr_281) rfl (show mcode 281 90 = some (90, .aload_n 0, 1, 0, 0, 0, _) from rfl) (Or.inl ⟨.ref 94, rfl, rfl⟩) ?_
          refine XW.fam (S' := (94, [(2, .int 3), (1, .int lv), (0, .ref 94)], [.ref 126], (sh, IQ8, LQ8, R))) (M := mr_281) rfl (show mcode 281 91 = some (91, .getfield 109, 3, 12, 39, 0, _) from rfl) (Or.inr (Or.inr (Or.inr (Or.inr (Or.inr (Or.inr (Or.inr (Or.inl ⟨_, _, rfl, fl_ld c94 r94_39 (by decide) (by decide), rfl⟩)))))))) ?_
          refine XW.fam (S' := (95, [(2, .int 3), (1, .int lv), (0, .ref 94)], [.int lv, .ref 126], (sh, IQ8, LQ8, R))) (M := mr_281) rfl (show mcode 281 94 = some (94, .iload_n 1, 1, 0, 0, 0, _) from rfl) (Or.inl ⟨.int lv, rfl, rfl⟩) ?_
          refine XW.fam (S' := (96, [(2, .int 3), (1, .int lv), (0, .ref 94)], [.int 3, .int lv, .ref 126], (sh, IQ8, LQ8, R))) (M := mr_281) rfl (show mcode 281 95 = some (95, .iload_n 2, 1, 0, 0, 0, _) from rfl) (Or.inl ⟨.int 3, rfl, rfl⟩) ?_
          have hin10 : inR lv 2730 = true := inR_of (by omega) (by omega)
          obtain ⟨I11, eI11⟩ : ∃ X, X = up2 IQ8 126 (lv).toNatClampNeg 3 := ⟨_, rfl⟩
          refine XW.fam (S' := (97, [(2, .int 3), (1, .int lv), (0, .ref 94)], [], (sh, I11, LQ8, R))) (M := mr_281) rfl (show mcode 281 96 = some (96, .iastore, 1, 0, 0, 0, _) from rfl) (Or.inr (Or.inr (Or.inr (Or.inl ⟨_, _, by rw [eI11]; exact sta_i c126 hin10, rfl⟩)))) ?_
          have xbI11 := i32b (3 : Int32)
          unfold lo32 hi32 at xbI11
          have hwI11 : wOK (mkT vV []) (wE sh R) (sh, I11, LQ8, R) := by rw [eI11]; exact wOK_u2 (q := 126) (k := (lv).toNatClampNeg) (x := 3) wE_put hL9.2.1 rfl (by show (0 : Int) ≤ _; omega) (by show _ ≤ (3 : Int); omega)
          have hfI11 : fresh (sh, I11, LQ8, R) := by rw [eI11]; exact fresh_I hL9.1 c126
          have hL12 : LQ sh R J b n N (130 * nv J 94 52 + mv.toInt.toNat) (nv J 94 52) mv.toInt.toNat 0 h (true, i + 1) (sh, I11, LQ8, R) := by rw [eI11] at hwI11 hfI11 ⊢; exact LQ_free hL9 (by decide) hwI11 hfI11
          obtain ⟨lw, elw⟩ : ∃ z : Int32, I11 94 53 = z := ⟨_, rfl⟩
          refine XW.gh (q := 94) (g := 202) (x := lw) c94 (by decide +kernel) ?_
          refine XW.gh (q := 94) (g := 203) (x := lw) c94 (by decide +kernel) ?_
          refine XW.gh (q := 94) (g := 200) (x := 0) c94 (by decide +kernel) ?_
          obtain ⟨Ig13, eIg⟩ : ∃ X, X = up2 (up2 (up2 I11 94 202 lw) 94 203 lw) 94 200 0 := ⟨_, rfl⟩
          rw [← eIg]
          have vlw : Ig13 94 53 = lw := by rw [eIg, up2_ne (by decide), up2_ne (by decide), up2_ne (by decide)]; exact elw
          have hlw : lw.toInt ≤ 239 := hl53 lw (by rw [← elw, eI11, up2_ne (fun e => by cases e.1)])
          refine XW.fam (S' := (98, [(2, .int 3), (1, .int lv), (0, .ref 94)], [.ref 94], (sh, Ig13, LQ8, R))) (M := mr_281) rfl (show mcode 281 97 = some (97, .aload_n 0, 1, 0, 0, 0, _) from rfl) (Or.inl ⟨.ref 94, rfl, rfl⟩) ?_
          refine XW.fam (S' := (101, [(2, .int 3), (1, .int lv), (0, .ref 94)], [.ref 128], (sh, Ig13, LQ8, R))) (M := mr_281) rfl (show mcode 281 98 = some (98, .getfield 115, 3, 12, 41, 0, _) from rfl) (Or.inr (Or.inr (Or.inr (Or.inr (Or.inr (Or.inr (Or.inr (Or.inl ⟨_, _, rfl, fl_ld c94 r94_41 (by decide) (by decide), rfl⟩)))))))) ?_
          refine XW.fam (S' := (102, [(2, .int 3), (1, .int lv), (0, .ref 94)], [.int lv, .ref 128], (sh, Ig13, LQ8, R))) (M := mr_281) rfl (show mcode 281 101 = some (101, .iload_n 1, 1, 0, 0, 0, _) from rfl) (Or.inl ⟨.int lv, rfl, rfl⟩) ?_
          refine XW.fam (S' := (103, [(2, .int 3), (1, .int lv), (0, .ref 94)], [.ref 94, .int lv, .ref 128], (sh, Ig13, LQ8, R))) (M := mr_281) rfl (show mcode 281 102 = some (102, .aload_n 0, 1, 0, 0, 0, _) from rfl) (Or.inl ⟨.ref 94, rfl, rfl⟩) ?_
          refine XW.fam (S' := (106, [(2, .int 3), (1, .int lv), (0, .ref 94)], [.int (Ig13 94 53), .int lv, .ref 128], (sh, Ig13, LQ8, R))) (M := mr_281) rfl (show mcode 281 103 = some (103, .getfield 376, 3, 12, 53, 0, _) from rfl) (Or.inr (Or.inr (Or.inr (Or.inr (Or.inr (Or.inr (Or.inr (Or.inl ⟨_, _, rfl, fl_ldI c94 (by decide) (by decide), rfl⟩)))))))) ?_
          rw [vlw]
          have hin14 : inR lv 2730 = true := inR_of (by omega) (by omega)
          obtain ⟨I15, eI15⟩ : ∃ X, X = up2 Ig13 128 (lv).toNatClampNeg lw := ⟨_, rfl⟩
          refine XW.fam (S' := (107, [(2, .int 3), (1, .int lv), (0, .ref 94)], [], (sh, I15, LQ8, R))) (M := mr_281) rfl (show mcode 281 106 = some (106, .iastore, 1, 0, 0, 0, _) from rfl) (Or.inr (Or.inr (Or.inr (Or.inl ⟨_, _, by rw [eI15]; exact sta_i c128 hin14, rfl⟩)))) ?_
          have hL16 : LQ sh R J b n N (130 * nv J 94 52 + mv.toInt.toNat) (nv J 94 52) mv.toInt.toNat 1 0 (true, i + 1) (sh, I15, LQ8, R) := by rw [eI15, eIg]; exact LQ_128 hJ rfl rfl hL12 elw.symm (by omega) eln
          refine XW.fam (S' := (108, [(2, .int 3), (1, .int lv), (0, .ref 94)], [.int 3], (sh, I15, LQ8, R))) (M := mr_281) rfl (show mcode 281 107 = some (107, .iload_n 2, 1, 0, 0, 0, _) from rfl) (Or.inl ⟨.int 3, rfl, rfl⟩) ?_
          refine XW.fam (S' := (109, [(2, .int 3), (1, .int lv), (0, .ref 94)], [.int 3, .int 3], (sh, I15, LQ8, R))) (M := mr_281) rfl (show mcode 281 108 = some (108, .iconst 3, 1, 0, 0, 0, _) from rfl) (Or.inl ⟨.int 3, rfl, rfl⟩) ?_
          refine XW.fam (S' := (112, [(2, .int 3), (1, .int lv), (0, .ref 94)], [], (sh, I15, LQ8, R))) (M := mr_281) rfl (show mcode 281 109 = some (109, .if_icmp .ne 33, 3, 142, 0, 0, _) from rfl) (Or.inr (Or.inl ⟨112, [], rfl, rfl⟩)) ?_
          refine XW.fam (S' := (113, [(2, .int 3), (1, .int lv), (0, .ref 94)], [.ref 94], (sh, I15, LQ8, R))) (M := mr_281) rfl (show mcode 281 112 = some (112, .aload_n 0, 1, 0, 0, 0, _) from rfl) (Or.inl ⟨.ref 94, rfl, rfl⟩) ?_
          refine XW.fam (S' := (116, [(2, .int 3), (1, .int lv), (0, .ref 94)], [.ref 127], (sh, I15, LQ8, R))) (M := mr_281) rfl (show mcode 281 113 = some (113, .getfield 112, 3, 12, 40, 0, _) from rfl) (Or.inr (Or.inr (Or.inr (Or.inr (Or.inr (Or.inr (Or.inr (Or.inl ⟨_, _, rfl, fl_ld c94 r94_40 (by decide) (by decide), rfl⟩)))))))) ?_
          refine XW.fam (S' := (117, [(2, .int 3), (1, .int lv), (0, .ref 94)], [.int lv, .ref 127], (sh, I15, LQ8, R))) (M := mr_281) rfl (show mcode 281 116 = some (116, .iload_n 1, 1, 0, 0, 0, _) from rfl) (Or.inl ⟨.int lv, rfl, rfl⟩) ?_
          refine XW.fam (S' := (118, [(2, .int 3), (1, .int lv), (0, .ref 94)], [.ref 94, .int lv, .ref 127], (sh, I15, LQ8, R))) (M := mr_281) rfl (show mcode 281 117 = some (117, .aload_n 0, 1, 0, 0, 0, _) from rfl) (Or.inl ⟨.ref 94, rfl, rfl⟩) ?_
          refine XW.fam (S' := (121, [(2, .int 3), (1, .int lv), (0, .ref 94)], [.int (I15 94 49), .int lv, .ref 127], (sh, I15, LQ8, R))) (M := mr_281) rfl (show mcode 281 118 = some (118, .getfield 363, 3, 12, 49, 0, _) from rfl) (Or.inr (Or.inr (Or.inr (Or.inr (Or.inr (Or.inr (Or.inr (Or.inl ⟨_, _, rfl, fl_ldI c94 (by decide) (by decide), rfl⟩)))))))) ?_
          have hin17 : inR lv 2730 = true := inR_of (by omega) (by omega)
          obtain ⟨I18, eI18⟩ : ∃ X, X = up2 I15 127 (lv).toNatClampNeg (I15 94 49) := ⟨_, rfl⟩
          refine XW.fam (S' := (122, [(2, .int 3), (1, .int lv), (0, .ref 94)], [], (sh, I18, LQ8, R))) (M := mr_281) rfl (show mcode 281 121 = some (121, .iastore, 1, 0, 0, 0, _) from rfl) (Or.inr (Or.inr (Or.inr (Or.inl ⟨_, _, by rw [eI18]; exact sta_i c127 hin17, rfl⟩)))) ?_
          have xbI18 := i32b ((I15 94 49) : Int32)
          unfold lo32 hi32 at xbI18
          have hwI18 : wOK (mkT vV []) (wE sh R) (sh, I18, LQ8, R) := by rw [eI18]; exact wOK_u2 (q := 127) (k := (lv).toNatClampNeg) (x := (I15 94 49)) wE_put hL16.2.1 rfl (by show ((-2147483648) : Int) ≤ _; omega) (by show _ ≤ (2147483647 : Int); omega)
          have hfI18 : fresh (sh, I18, LQ8, R) := by rw [eI18]; exact fresh_I hL16.1 c127
          have hL19 : LQ sh R J b n N (130 * nv J 94 52 + mv.toInt.toNat) (nv J 94 52) mv.toInt.toNat 1 0 (true, i + 1) (sh, I18, LQ8, R) := by rw [eI18] at hwI18 hfI18 ⊢; exact LQ_free hL16 (by decide) hwI18 hfI18
          have hB20 : mBs I18 b n N := mBs_keep hL19.2.2.1 hJ
          have hq21 : QM sh R I18 b n N 0 0 0 (true, i + 1) (sh, I18, LQ8, R) := ⟨hL19.1, hL19.2.1, fun _ _ _ => rfl, hL19.2.2.2.1⟩
          have ga22 := gram_allM (d := d) (sh := sh) (J := I18) (R := R) hB20 3000
          obtain ⟨tk1, etk1⟩ : ∃ z : Int32, I18 94 48 = z := ⟨_, rfl⟩
          have htk1 : tk1.toInt = mtok b n (tS b n (i + 1)) := by rw [← etk1]; exact (hL19.2.2.2.1.2.1 rfl).1.2.2
          have mn1 : mtok b n (tS b n (i + 1)) = 2 ↔ tK b n (i + 1) = 300 := mtok_num hJ.2.2.2
          refine XW.fam (S' := (123, [(2, .int 3), (1, .int lv), (0, .ref 94)], [.ref 94], (sh, I18, LQ8, R))) (M := mr_281) rfl (show mcode 281 122 = some (122, .aload_n 0, 1, 0, 0, 0, _) from rfl) (Or.inl ⟨.ref 94, rfl, rfl⟩) ?_
          refine XW.fam (S' := (126, [(2, .int 3), (1, .int lv), (0, .ref 94)], [.int (I18 94 48)], (sh, I18, LQ8, R))) (M := mr_281) rfl (show mcode 281 123 = some (123, .getfield 354, 3, 12, 48, 0, _) from rfl) (Or.inr (Or.inr (Or.inr (Or.inr (Or.inr (Or.inr (Or.inr (Or.inl ⟨_, _, rfl, fl_ldI c94 (by decide) (by decide), rfl⟩)))))))) ?_
          rw [etk1]
          refine XW.fam (S' := (127, [(2, .int 3), (1, .int lv), (0, .ref 94)], [.int 2, .int tk1], (sh, I18, LQ8, R))) (M := mr_281) rfl (show mcode 281 126 = some (126, .iconst 2, 1, 0, 0, 0, _) from rfl) (Or.inl ⟨.int 2, rfl, rfl⟩) ?_
          cases k23 : bcmp .eq tk1 2 with
          | true =>
            have gk23 : (tk1).toInt = 2 := icT (c := .eq) (a := (tk1).toInt) (b := 2) rfl (by decide) k23
            refine XW.fam (S' := (135, [(2, .int 3), (1, .int lv), (0, .ref 94)], [], (sh, I18, LQ8, R))) (M := mr_281) rfl (show mcode 281 127 = some (127, .if_icmp .eq 8, 3, 135, 0, 0, _) from rfl) (Or.inr (Or.inl ⟨135, [], by simp [brn, k23], rfl⟩)) ?_
            refine XW.fam (S' := (136, [(2, .int 3), (1, .int lv), (0, .ref 94)], [.ref 94], (sh, I18, LQ8, R))) (M := mr_281) rfl (show mcode 281 135 = some (135, .aload_n 0, 1, 0, 0, 0, _) from rfl) (Or.inl ⟨.ref 94, rfl, rfl⟩) ?_
            refine XW.call (d' := d + 2) (mc' := 0) (ms' := 0) (av := [.ref 94]) (rest := []) (M := mr_281) (Ma := mr_278) rfl (show mcode 281 136 = some (136, .invokevirtual 385, 3, 278, 0, 0, _) from rfl) rfl (by decide) (by decide) ⟨rfl, 94, _, rfl, c94⟩ rfl rfl (show 0 ≤ 8 by decide) (tc_nxtM (d := d) (c2 := 1) hB20 hq21 (lt_N hN hle1 (by omega)) rfl) (by omega) (Nat.zero_le _) (Nat.zero_le _) (fun rQ24 wQ24 Q24 => ?_)
            obtain ⟨hrQ24, hqQ24⟩ := Q24
            subst hrQ24
            obtain ⟨shQ24, IQ24, LQ24, RQ24⟩ := wQ24
            obtain rfl : sh = shQ24 := hqQ24.2.1.2.2.2.1.symm
            obtain rfl : R = RQ24 := hqQ24.2.1.2.2.2.2.1.symm
            refine XW.fam (S' := (151, [(2, .int 3), (1, .int lv), (0, .ref 94)], [], (sh, IQ24, LQ24, R))) (M := mr_281) rfl (show mcode 281 139 = some (139, .goto 12, 3, 151, 0, 0, _) from rfl) (Or.inr (Or.inl ⟨151, [], rfl, rfl⟩)) ?_
            have hL25 : LQ sh R J b n N (130 * nv J 94 52 + mv.toInt.toNat) (nv J 94 52) mv.toInt.toNat 1 0 (true, i + 1 + 1) (sh, IQ24, LQ24, R) := LQ_of hL19 rfl (by decide) hqQ24 (by decide)
            obtain ⟨lw, elw⟩ : ∃ z : Int32, IQ24 94 53 = z := ⟨_, rfl⟩
            refine XW.gh (q := 94) (g := 203) (x := lw) c94 (by decide +kernel) ?_
            refine XW.gh (q := 94) (g := 200) (x := 0) c94 (by decide +kernel) ?_
            obtain ⟨Ig26, eIg⟩ : ∃ X, X = up2 (up2 IQ24 94 203 lw) 94 200 0 := ⟨_, rfl⟩
            rw [← eIg]
            have vlw : Ig26 94 53 = lw := by rw [eIg, up2_ne (by decide), up2_ne (by decide)]; exact elw
            have hlw : 0 ≤ lw.toInt ∧ lw.toInt ≤ 241 := by rw [← elw]; exact hL25.2.1.2.2.1 94 53
            refine XW.fam (S' := (152, [(2, .int 3), (1, .int lv), (0, .ref 94)], [.ref 94], (sh, Ig26, LQ24, R))) (M := mr_281) rfl (show mcode 281 151 = some (151, .aload_n 0, 1, 0, 0, 0, _) from rfl) (Or.inl ⟨.ref 94, rfl, rfl⟩) ?_
            refine XW.fam (S' := (155, [(2, .int 3), (1, .int lv), (0, .ref 94)], [.ref 129], (sh, Ig26, LQ24, R))) (M := mr_281) rfl (show mcode 281 152 = some (152, .getfield 118, 3, 12, 42, 0, _) from rfl) (Or.inr (Or.inr (Or.inr (Or.inr (Or.inr (Or.inr (Or.inr (Or.inl ⟨_, _, rfl, fl_ld c94 r94_42 (by decide) (by decide), rfl⟩)))))))) ?_
            refine XW.fam (S' := (156, [(2, .int 3), (1, .int lv), (0, .ref 94)], [.int lv, .ref 129], (sh, Ig26, LQ24, R))) (M := mr_281) rfl (show mcode 281 155 = some (155, .iload_n 1, 1, 0, 0, 0, _) from rfl) (Or.inl ⟨.int lv, rfl, rfl⟩) ?_
            refine XW.fam (S' := (157, [(2, .int 3), (1, .int lv), (0, .ref 94)], [.ref 94, .int lv, .ref 129], (sh, Ig26, LQ24, R))) (M := mr_281) rfl (show mcode 281 156 = some (156, .aload_n 0, 1, 0, 0, 0, _) from rfl) (Or.inl ⟨.ref 94, rfl, rfl⟩) ?_
            refine XW.fam (S' := (160, [(2, .int 3), (1, .int lv), (0, .ref 94)], [.int (Ig26 94 53), .int lv, .ref 129], (sh, Ig26, LQ24, R))) (M := mr_281) rfl (show mcode 281 157 = some (157, .getfield 376, 3, 12, 53, 0, _) from rfl) (Or.inr (Or.inr (Or.inr (Or.inr (Or.inr (Or.inr (Or.inr (Or.inl ⟨_, _, rfl, fl_ldI c94 (by decide) (by decide), rfl⟩)))))))) ?_
            rw [vlw]
            have hin27 : inR lv 2730 = true := inR_of (by omega) (by omega)
            obtain ⟨I28, eI28⟩ : ∃ X, X = up2 Ig26 129 (lv).toNatClampNeg lw := ⟨_, rfl⟩
            refine XW.fam (S' := (161, [(2, .int 3), (1, .int lv), (0, .ref 94)], [], (sh, I28, LQ24, R))) (M := mr_281) rfl (show mcode 281 160 = some (160, .iastore, 1, 0, 0, 0, _) from rfl) (Or.inr (Or.inr (Or.inr (Or.inl ⟨_, _, by rw [eI28]; exact sta_i c129 hin27, rfl⟩)))) ?_
            have hL29 : LQ sh R J b n N (130 * nv J 94 52 + mv.toInt.toNat) (nv J 94 52) mv.toInt.toNat 2 0 (true, i + 1 + 1) (sh, I28, LQ24, R) := by rw [eI28, eIg]; exact LQ_129t hJ rfl rfl hL25 elw.symm eln rfl
            obtain ⟨fl30, efl30⟩ : ∃ z : Int32, I28 94 50 = z := ⟨_, rfl⟩
            have hfl30 : fl30.toInt = -1 := by rw [← efl30]; exact (hL29.2.2.2.1.2.1 rfl).2.1
            refine XW.fam (S' := (162, [(2, .int 3), (1, .int lv), (0, .ref 94)], [.ref 94], (sh, I28, LQ24, R))) (M := mr_281) rfl (show mcode 281 161 = some (161, .aload_n 0, 1, 0, 0, 0, _) from rfl) (Or.inl ⟨.ref 94, rfl, rfl⟩) ?_
            refine XW.fam (S' := (165, [(2, .int 3), (1, .int lv), (0, .ref 94)], [.int (I28 94 50)], (sh, I28, LQ24, R))) (M := mr_281) rfl (show mcode 281 162 = some (162, .getfield 370, 3, 12, 50, 0, _) from rfl) (Or.inr (Or.inr (Or.inr (Or.inr (Or.inr (Or.inr (Or.inr (Or.inl ⟨_, _, rfl, fl_ldI c94 (by decide) (by decide), rfl⟩)))))))) ?_
            rw [efl30]
            have k31 : bcmp .lt fl30 0 = true := bcT (c := .lt) (a := (fl30).toInt) (b := 0) rfl (by decide) (by show (fl30).toInt < 0; omega)
            refine XW.fam (S' := (169, [(2, .int 3), (1, .int lv), (0, .ref 94)], [], (sh, I28, LQ24, R))) (M := mr_281) rfl (show mcode 281 165 = some (165, .ifCond .lt 4, 3, 169, 0, 0, _) from rfl) (Or.inr (Or.inl ⟨169, [], by simp [brn, k31], rfl⟩)) ?_
            have hB32 : mBs I28 b n N := mBs_keep hL29.2.2.1 hJ
            have hq33 : QM sh R I28 b n N 0 0 0 (true, i + 1 + 1) (sh, I28, LQ24, R) := ⟨hL29.1, hL29.2.1, fun _ _ _ => rfl, hL29.2.2.2.1⟩
            have ga34 := gram_allM (d := d) (sh := sh) (J := I28) (R := R) hB32 3000
            have hjN : (i + 1 + 1) ≤ N := hL29.2.2.2.1.1.2
            refine XW.fam (S' := (170, [(2, .int 3), (1, .int lv), (0, .ref 94)], [.int 3], (sh, I28, LQ24, R))) (M := mr_281) rfl (show mcode 281 169 = some (169, .iload_n 2, 1, 0, 0, 0, _) from rfl) (Or.inl ⟨.int 3, rfl, rfl⟩) ?_
            refine XW.fam (S' := (171, [(2, .int 3), (1, .int lv), (0, .ref 94)], [.int 2, .int 3], (sh, I28, LQ24, R))) (M := mr_281) rfl (show mcode 281 170 = some (170, .iconst 2, 1, 0, 0, 0, _) from rfl) (Or.inl ⟨.int 2, rfl, rfl⟩) ?_
            refine XW.fam (S' := (181, [(2, .int 3), (1, .int lv), (0, .ref 94)], [], (sh, I28, LQ24, R))) (M := mr_281) rfl (show mcode 281 171 = some (171, .if_icmp .ne 10, 3, 181, 0, 0, _) from rfl) (Or.inr (Or.inl ⟨181, [], rfl, rfl⟩)) ?_
            refine XW.fam (S' := (182, [(2, .int 3), (1, .int lv), (0, .ref 94)], [.int 3], (sh, I28, LQ24, R))) (M := mr_281) rfl (show mcode 281 181 = some (181, .iload_n 2, 1, 0, 0, 0, _) from rfl) (Or.inl ⟨.int 3, rfl, rfl⟩) ?_
            refine XW.fam (S' := (183, [(2, .int 3), (1, .int lv), (0, .ref 94)], [.int 1, .int 3], (sh, I28, LQ24, R))) (M := mr_281) rfl (show mcode 281 182 = some (182, .iconst 1, 1, 0, 0, 0, _) from rfl) (Or.inl ⟨.int 1, rfl, rfl⟩) ?_
            refine XW.fam (S' := (186, [(2, .int 3), (1, .int lv), (0, .ref 94)], [], (sh, I28, LQ24, R))) (M := mr_281) rfl (show mcode 281 183 = some (183, .if_icmp .eq 21, 3, 204, 0, 0, _) from rfl) (Or.inr (Or.inl ⟨186, [], rfl, rfl⟩)) ?_
            refine XW.fam (S' := (187, [(2, .int 3), (1, .int lv), (0, .ref 94)], [.ref 94], (sh, I28, LQ24, R))) (M := mr_281) rfl (show mcode 281 186 = some (186, .aload_n 0, 1, 0, 0, 0, _) from rfl) (Or.inl ⟨.ref 94, rfl, rfl⟩) ?_
            refine XW.fam (S' := (190, [(2, .int 3), (1, .int lv), (0, .ref 94)], [.long 249, .ref 94], (sh, I28, LQ24, R))) (M := mr_281) rfl (show mcode 281 187 = some (187, .ldc2_w 442, 3, 0, 0, 249, _) from rfl) (Or.inr (Or.inr (Or.inr (Or.inr (Or.inl ⟨.long 249, rfl, rfl⟩))))) ?_
            refine XW.call (d' := d) (mc' := 0) (ms' := 0) (av := [.ref 94, .long 249]) (rest := []) (M := mr_281) (Ma := mr_282) rfl (show mcode 281 190 = some (190, .invokevirtual 391, 3, 282, 0, 0, _) from rfl) rfl (by decide) (by decide) ⟨rfl, 94, _, rfl, c94⟩ rfl rfl (show 0 ≤ 8 by decide) (tc_isM (d := d) (t := 4) hB32 hq33 (by decide) (by decide)) (by omega) (Nat.zero_le _) (Nat.zero_le _) (fun rQ35 wQ35 Q35 => ?_)
            obtain ⟨hQ35, hwQ35⟩ := Q35
            subst hwQ35
            rcases hQ35 with ⟨rfl, gQ35⟩ | ⟨rfl, gQ35⟩
            · skip
              refine XW.fam (S' := (204, [(2, .int 3), (1, .int lv), (0, .ref 94)], [], (sh, I28, LQ24, R))) (M := mr_281) rfl (show mcode 281 193 = some (193, .ifCond .eq 11, 3, 204, 0, 0, _) from rfl) (Or.inr (Or.inl ⟨204, [], rfl, rfl⟩)) ?_
              refine XW.fam (S' := (205, [(2, .int 3), (1, .int lv), (0, .ref 94)], [.ref 94], (sh, I28, LQ24, R))) (M := mr_281) rfl (show mcode 281 204 = some (204, .aload_n 0, 1, 0, 0, 0, _) from rfl) (Or.inl ⟨.ref 94, rfl, rfl⟩) ?_
              refine XW.fam (S' := (208, [(2, .int 3), (1, .int lv), (0, .ref 94)], [.ref 130], (sh, I28, LQ24, R))) (M := mr_281) rfl (show mcode 281 205 = some (205, .getfield 121, 3, 12, 43, 0, _) from rfl) (Or.inr (Or.inr (Or.inr (Or.inr (Or.inr (Or.inr (Or.inr (Or.inl ⟨_, _, rfl, fl_ld c94 r94_43 (by decide) (by decide), rfl⟩)))))))) ?_
              refine XW.fam (S' := (209, [(2, .int 3), (1, .int lv), (0, .ref 94)], [.int lv, .ref 130], (sh, I28, LQ24, R))) (M := mr_281) rfl (show mcode 281 208 = some (208, .iload_n 1, 1, 0, 0, 0, _) from rfl) (Or.inl ⟨.int lv, rfl, rfl⟩) ?_
              refine XW.fam (S' := (210, [(2, .int 3), (1, .int lv), (0, .ref 94)], [.ref 94, .int lv, .ref 130], (sh, I28, LQ24, R))) (M := mr_281) rfl (show mcode 281 209 = some (209, .aload_n 0, 1, 0, 0, 0, _) from rfl) (Or.inl ⟨.ref 94, rfl, rfl⟩) ?_
              refine XW.fam (S' := (213, [(2, .int 3), (1, .int lv), (0, .ref 94)], [.int (I28 94 53), .int lv, .ref 130], (sh, I28, LQ24, R))) (M := mr_281) rfl (show mcode 281 210 = some (210, .getfield 376, 3, 12, 53, 0, _) from rfl) (Or.inr (Or.inr (Or.inr (Or.inr (Or.inr (Or.inr (Or.inr (Or.inl ⟨_, _, rfl, fl_ldI c94 (by decide) (by decide), rfl⟩)))))))) ?_
              have hin36 : inR lv 2730 = true := inR_of (by omega) (by omega)
              obtain ⟨I37, eI37⟩ : ∃ X, X = up2 I28 130 (lv).toNatClampNeg (I28 94 53) := ⟨_, rfl⟩
              refine XW.fam (S' := (214, [(2, .int 3), (1, .int lv), (0, .ref 94)], [], (sh, I37, LQ24, R))) (M := mr_281) rfl (show mcode 281 213 = some (213, .iastore, 1, 0, 0, 0, _) from rfl) (Or.inr (Or.inr (Or.inr (Or.inl ⟨_, _, by rw [eI37]; exact sta_i c130 hin36, rfl⟩)))) ?_
              have hL38 : LQ sh R J b n N (130 * nv J 94 52 + mv.toInt.toNat) (nv J 94 52) mv.toInt.toNat 3 0 (true, i + 1 + 1) (sh, I37, LQ24, R) := by rw [eI37]; exact LQ_130 hJ rfl rfl hL29 rfl eln
              have k52 : I37 94 52 = ro := (hL38.2.2.1 94 52 rfl).trans ((hkR 94 52 rfl).symm.trans ero)
              obtain ⟨m2, em2⟩ : ∃ z : Int32, I37 125 (ro).toNatClampNeg = z := ⟨_, rfl⟩
              have hm2 : m2.toInt = mv.toInt := by have z : (I37 125 (nv J 94 52)).toInt = (mv.toInt.toNat : Int) := hL38.2.2.2.2.1; rw [← em2, ern, z]; omega
              have xi := inc32 (m := m2) (by omega) (by omega)
              refine XW.fam (S' := (215, [(2, .int 3), (1, .int lv), (0, .ref 94)], [.ref 94], (sh, I37, LQ24, R))) (M := mr_281) rfl (show mcode 281 214 = some (214, .aload_n 0, 1, 0, 0, 0, _) from rfl) (Or.inl ⟨.ref 94, rfl, rfl⟩) ?_
              refine XW.fam (S' := (218, [(2, .int 3), (1, .int lv), (0, .ref 94)], [.ref 125], (sh, I37, LQ24, R))) (M := mr_281) rfl (show mcode 281 215 = some (215, .getfield 106, 3, 12, 38, 0, _) from rfl) (Or.inr (Or.inr (Or.inr (Or.inr (Or.inr (Or.inr (Or.inr (Or.inl ⟨_, _, rfl, fl_ld c94 r94_38 (by decide) (by decide), rfl⟩)))))))) ?_
              refine XW.fam (S' := (219, [(2, .int 3), (1, .int lv), (0, .ref 94)], [.ref 94, .ref 125], (sh, I37, LQ24, R))) (M := mr_281) rfl (show mcode 281 218 = some (218, .aload_n 0, 1, 0, 0, 0, _) from rfl) (Or.inl ⟨.ref 94, rfl, rfl⟩) ?_
              refine XW.fam (S' := (222, [(2, .int 3), (1, .int lv), (0, .ref 94)], [.int (I37 94 52), .ref 125], (sh, I37, LQ24, R))) (M := mr_281) rfl (show mcode 281 219 = some (219, .getfield 373, 3, 12, 52, 0, _) from rfl) (Or.inr (Or.inr (Or.inr (Or.inr (Or.inr (Or.inr (Or.inr (Or.inl ⟨_, _, rfl, fl_ldI c94 (by decide) (by decide), rfl⟩)))))))) ?_
              rw [k52]
              refine XW.fam (S' := (223, [(2, .int 3), (1, .int lv), (0, .ref 94)], [.int ro, .ref 125, .int ro, .ref 125], (sh, I37, LQ24, R))) (M := mr_281) rfl (show mcode 281 222 = some (222, .dup2, 1, 0, 0, 0, _) from rfl) (Or.inr (Or.inr (Or.inr (Or.inr (Or.inr (Or.inl ⟨_, rfl, rfl⟩)))))) ?_
              have hin39 : inR ro 21 = true := inR_of (by omega) (by omega)
              refine XW.fam (S' := (224, [(2, .int 3), (1, .int lv), (0, .ref 94)], [.int (I37 125 (ro).toNatClampNeg), .int ro, .ref 125], (sh, I37, LQ24, R))) (M := mr_281) rfl (show mcode 281 223 = some (223, .iaload, 1, 0, 0, 0, _) from rfl) (Or.inr (Or.inr (Or.inl ⟨_, lda_i c125 hin39, rfl⟩))) ?_
              rw [em2]
              refine XW.fam (S' := (225, [(2, .int 3), (1, .int lv), (0, .ref 94)], [.int 1, .int m2, .int ro, .ref 125], (sh, I37, LQ24, R))) (M := mr_281) rfl (show mcode 281 224 = some (224, .iconst 1, 1, 0, 0, 0, _) from rfl) (Or.inl ⟨.int 1, rfl, rfl⟩) ?_
              refine XW.fam (S' := (226, [(2, .int 3), (1, .int lv), (0, .ref 94)], [.int (m2 + 1), .int ro, .ref 125], (sh, I37, LQ24, R))) (M := mr_281) rfl (show mcode 281 225 = some (225, .iadd, 1, 0, 0, 0, _) from rfl) (Or.inr (Or.inr (Or.inr (Or.inr (Or.inr (Or.inl ⟨_, rfl, rfl⟩)))))) ?_
              have hin40 : inR ro 21 = true := inR_of (by omega) (by omega)
              obtain ⟨I41, eI41⟩ : ∃ X, X = up2 I37 125 (ro).toNatClampNeg (m2 + 1) := ⟨_, rfl⟩
              refine XW.fam (S' := (227, [(2, .int 3), (1, .int lv), (0, .ref 94)], [], (sh, I41, LQ24, R))) (M := mr_281) rfl (show mcode 281 226 = some (226, .iastore, 1, 0, 0, 0, _) from rfl) (Or.inr (Or.inr (Or.inr (Or.inl ⟨_, _, by rw [eI41]; exact sta_i c125 hin40, rfl⟩)))) ?_
              have hQ43 : QL sh R J b n N 1 (true, i + 1 + 1) (sh, I41, LQ24, R) := by rw [eI41]; exact LQ_125 hJ rfl rfl hL38 (by omega) (by omega) ern (by have z := hjN; show 2 * ((mv.toInt.toNat : Int) + 1) ≤ ((i + 1 + 1 : Nat) : Int) + 1; omega)
              refine XW.ret (r := none) ⟨rfl, by decide +kernel⟩ ?_
              have eL : gLn (tK b n) 3000 i = (true, i + 1 + 1) := by
                unfold gLn
                rw [if_neg (by omega), if_neg (by omega), if_pos (by omega)]
                rw [if_pos (by omega)]
                rw [gB_t (r := (true, i + 1 + 1)) rfl]
                show (if tK b n (i + 1 + 1) = 260 ∧ (tK b n i = 256 ∨ tK b n i = 259) then gPx (tK b n) 3000 9 0 (i + 1 + 1 + 1) else (true, i + 1 + 1)) = _
                exact if_neg (by omega)
              rw [eL]
              exact ⟨rfl, hQ43⟩
            · skip
              refine XW.fam (S' := (196, [(2, .int 3), (1, .int lv), (0, .ref 94)], [], (sh, I28, LQ24, R))) (M := mr_281) rfl (show mcode 281 193 = some (193, .ifCond .eq 11, 3, 204, 0, 0, _) from rfl) (Or.inr (Or.inl ⟨196, [], rfl, rfl⟩)) ?_
              refine XW.fam (S' := (197, [(2, .int 3), (1, .int lv), (0, .ref 94)], [.ref 94], (sh, I28, LQ24, R))) (M := mr_281) rfl (show mcode 281 196 = some (196, .aload_n 0, 1, 0, 0, 0, _) from rfl) (Or.inl ⟨.ref 94, rfl, rfl⟩) ?_
              refine XW.call (d' := d + 2) (mc' := 0) (ms' := 0) (av := [.ref 94]) (rest := []) (M := mr_281) (Ma := mr_278) rfl (show mcode 281 197 = some (197, .invokevirtual 385, 3, 278, 0, 0, _) from rfl) rfl (by decide) (by decide) ⟨rfl, 94, _, rfl, c94⟩ rfl rfl (show 0 ≤ 8 by decide) (tc_nxtM (d := d) (c2 := 1) hB32 hq33 (lt_N hN hjN (by omega)) rfl) (by omega) (Nat.zero_le _) (Nat.zero_le _) (fun rQ44 wQ44 Q44 => ?_)
              obtain ⟨hrQ44, hqQ44⟩ := Q44
              subst hrQ44
              obtain ⟨shQ44, IQ44, LQ44, RQ44⟩ := wQ44
              obtain rfl : sh = shQ44 := hqQ44.2.1.2.2.2.1.symm
              obtain rfl : R = RQ44 := hqQ44.2.1.2.2.2.2.1.symm
              have hL45 : LQ sh R J b n N (130 * nv J 94 52 + mv.toInt.toNat) (nv J 94 52) mv.toInt.toNat 2 0 (true, (i + 1 + 1) + 1) (sh, IQ44, LQ44, R) := LQ_of hL29 rfl (by decide) hqQ44 (by decide)
              have hB46 : mBs IQ44 b n N := mBs_keep hL45.2.2.1 hJ
              have hq47 : QM sh R IQ44 b n N 0 0 0 (true, (i + 1 + 1) + 1) (sh, IQ44, LQ44, R) := ⟨hL45.1, hL45.2.1, fun _ _ _ => rfl, hL45.2.2.2.1⟩
              have ga48 := gram_allM (d := d) (sh := sh) (J := IQ44) (R := R) hB46 3000
              have hjN1 : (i + 1 + 1) + 1 ≤ N := hL45.2.2.2.1.1.2
              refine XW.fam (S' := (201, [(2, .int 3), (1, .int lv), (0, .ref 94)], [.ref 94], (sh, IQ44, LQ44, R))) (M := mr_281) rfl (show mcode 281 200 = some (200, .aload_n 0, 1, 0, 0, 0, _) from rfl) (Or.inl ⟨.ref 94, rfl, rfl⟩) ?_
              refine XW.call (d' := (d + 4 + (6 * (8 - 0) + 6))) (mc' := 0) (ms' := 0) (av := [.ref 94]) (rest := []) (M := mr_281) (Ma := mr_291) rfl (show mcode 281 201 = some (201, .invokevirtual 424, 3, 291, 0, 0, _) from rfl) rfl (by decide) (by decide) ⟨rfl, 94, _, rfl, c94⟩ rfl rfl (show 0 ≤ 8 by decide) (ga48.2.2.2.2.2 0 ((i + 1 + 1) + 1) 0 0 (by omega) (QM_wk hq47 (by omega)) (by omega) (by omega) (by omega)) (by omega) (Nat.zero_le _) (Nat.zero_le _) (fun rQ49 wQ49 Q49 => ?_)
              obtain ⟨hrQ49, hqQ49⟩ := Q49
              subst hrQ49
              obtain ⟨shQ49, IQ49, LQ49, RQ49⟩ := wQ49
              obtain rfl : sh = shQ49 := hqQ49.2.1.2.2.2.1.symm
              obtain rfl : R = RQ49 := hqQ49.2.1.2.2.2.2.1.symm
              have hL50 : LQ sh R J b n N (130 * nv J 94 52 + mv.toInt.toNat) (nv J 94 52) mv.toInt.toNat 2 (0 + 1) (gPx (tK b n) 3000 9 0 ((i + 1 + 1) + 1)) (sh, IQ49, LQ49, R) := LQ_of hL45 rfl (by decide) hqQ49 (Int.le_refl _)
              have hgo9 := (gPx_ok hN 3000 0 ((i + 1 + 1) + 1) hjN1).1 9 (by omega)
              refine XW.fam (S' := (205, [(2, .int 3), (1, .int lv), (0, .ref 94)], [.ref 94], (sh, IQ49, LQ49, R))) (M := mr_281) rfl (show mcode 281 204 = some (204, .aload_n 0, 1, 0, 0, 0, _) from rfl) (Or.inl ⟨.ref 94, rfl, rfl⟩) ?_
              refine XW.fam (S' := (208, [(2, .int 3), (1, .int lv), (0, .ref 94)], [.ref 130], (sh, IQ49, LQ49, R))) (M := mr_281) rfl (show mcode 281 205 = some (205, .getfield 121, 3, 12, 43, 0, _) from rfl) (Or.inr (Or.inr (Or.inr (Or.inr (Or.inr (Or.inr (Or.inr (Or.inl ⟨_, _, rfl, fl_ld c94 r94_43 (by decide) (by decide), rfl⟩)))))))) ?_
              refine XW.fam (S' := (209, [(2, .int 3), (1, .int lv), (0, .ref 94)], [.int lv, .ref 130], (sh, IQ49, LQ49, R))) (M := mr_281) rfl (show mcode 281 208 = some (208, .iload_n 1, 1, 0, 0, 0, _) from rfl) (Or.inl ⟨.int lv, rfl, rfl⟩) ?_
              refine XW.fam (S' := (210, [(2, .int 3), (1, .int lv), (0, .ref 94)], [.ref 94, .int lv, .ref 130], (sh, IQ49, LQ49, R))) (M := mr_281) rfl (show mcode 281 209 = some (209, .aload_n 0, 1, 0, 0, 0, _) from rfl) (Or.inl ⟨.ref 94, rfl, rfl⟩) ?_
              refine XW.fam (S' := (213, [(2, .int 3), (1, .int lv), (0, .ref 94)], [.int (IQ49 94 53), .int lv, .ref 130], (sh, IQ49, LQ49, R))) (M := mr_281) rfl (show mcode 281 210 = some (210, .getfield 376, 3, 12, 53, 0, _) from rfl) (Or.inr (Or.inr (Or.inr (Or.inr (Or.inr (Or.inr (Or.inr (Or.inl ⟨_, _, rfl, fl_ldI c94 (by decide) (by decide), rfl⟩)))))))) ?_
              have hin51 : inR lv 2730 = true := inR_of (by omega) (by omega)
              obtain ⟨I52, eI52⟩ : ∃ X, X = up2 IQ49 130 (lv).toNatClampNeg (IQ49 94 53) := ⟨_, rfl⟩
              refine XW.fam (S' := (214, [(2, .int 3), (1, .int lv), (0, .ref 94)], [], (sh, I52, LQ49, R))) (M := mr_281) rfl (show mcode 281 213 = some (213, .iastore, 1, 0, 0, 0, _) from rfl) (Or.inr (Or.inr (Or.inr (Or.inl ⟨_, _, by rw [eI52]; exact sta_i c130 hin51, rfl⟩)))) ?_
              have hL53 : LQ sh R J b n N (130 * nv J 94 52 + mv.toInt.toNat) (nv J 94 52) mv.toInt.toNat 3 (0 + 1) (gPx (tK b n) 3000 9 0 ((i + 1 + 1) + 1)) (sh, I52, LQ49, R) := by rw [eI52]; exact LQ_130 hJ rfl rfl hL50 rfl eln
              have k52 : I52 94 52 = ro := (hL53.2.2.1 94 52 rfl).trans ((hkR 94 52 rfl).symm.trans ero)
              obtain ⟨m2, em2⟩ : ∃ z : Int32, I52 125 (ro).toNatClampNeg = z := ⟨_, rfl⟩
              have hm2 : m2.toInt = mv.toInt := by have z : (I52 125 (nv J 94 52)).toInt = (mv.toInt.toNat : Int) := hL53.2.2.2.2.1; rw [← em2, ern, z]; omega
              have xi := inc32 (m := m2) (by omega) (by omega)
              refine XW.fam (S' := (215, [(2, .int 3), (1, .int lv), (0, .ref 94)], [.ref 94], (sh, I52, LQ49, R))) (M := mr_281) rfl (show mcode 281 214 = some (214, .aload_n 0, 1, 0, 0, 0, _) from rfl) (Or.inl ⟨.ref 94, rfl, rfl⟩) ?_
              refine XW.fam (S' := (218, [(2, .int 3), (1, .int lv), (0, .ref 94)], [.ref 125], (sh, I52, LQ49, R))) (M := mr_281) rfl (show mcode 281 215 = some (215, .getfield 106, 3, 12, 38, 0, _) from rfl) (Or.inr (Or.inr (Or.inr (Or.inr (Or.inr (Or.inr (Or.inr (Or.inl ⟨_, _, rfl, fl_ld c94 r94_38 (by decide) (by decide), rfl⟩)))))))) ?_
              refine XW.fam (S' := (219, [(2, .int 3), (1, .int lv), (0, .ref 94)], [.ref 94, .ref 125], (sh, I52, LQ49, R))) (M := mr_281) rfl (show mcode 281 218 = some (218, .aload_n 0, 1, 0, 0, 0, _) from rfl) (Or.inl ⟨.ref 94, rfl, rfl⟩) ?_
              refine XW.fam (S' := (222, [(2, .int 3), (1, .int lv), (0, .ref 94)], [.int (I52 94 52), .ref 125], (sh, I52, LQ49, R))) (M := mr_281) rfl (show mcode 281 219 = some (219, .getfield 373, 3, 12, 52, 0, _) from rfl) (Or.inr (Or.inr (Or.inr (Or.inr (Or.inr (Or.inr (Or.inr (Or.inl ⟨_, _, rfl, fl_ldI c94 (by decide) (by decide), rfl⟩)))))))) ?_
              rw [k52]
              refine XW.fam (S' := (223, [(2, .int 3), (1, .int lv), (0, .ref 94)], [.int ro, .ref 125, .int ro, .ref 125], (sh, I52, LQ49, R))) (M := mr_281) rfl (show mcode 281 222 = some (222, .dup2, 1, 0, 0, 0, _) from rfl) (Or.inr (Or.inr (Or.inr (Or.inr (Or.inr (Or.inl ⟨_, rfl, rfl⟩)))))) ?_
              have hin54 : inR ro 21 = true := inR_of (by omega) (by omega)
              refine XW.fam (S' := (224, [(2, .int 3), (1, .int lv), (0, .ref 94)], [.int (I52 125 (ro).toNatClampNeg), .int ro, .ref 125], (sh, I52, LQ49, R))) (M := mr_281) rfl (show mcode 281 223 = some (223, .iaload, 1, 0, 0, 0, _) from rfl) (Or.inr (Or.inr (Or.inl ⟨_, lda_i c125 hin54, rfl⟩))) ?_
              rw [em2]
              refine XW.fam (S' := (225, [(2, .int 3), (1, .int lv), (0, .ref 94)], [.int 1, .int m2, .int ro, .ref 125], (sh, I52, LQ49, R))) (M := mr_281) rfl (show mcode 281 224 = some (224, .iconst 1, 1, 0, 0, 0, _) from rfl) (Or.inl ⟨.int 1, rfl, rfl⟩) ?_
              refine XW.fam (S' := (226, [(2, .int 3), (1, .int lv), (0, .ref 94)], [.int (m2 + 1), .int ro, .ref 125], (sh, I52, LQ49, R))) (M := mr_281) rfl (show mcode 281 225 = some (225, .iadd, 1, 0, 0, 0, _) from rfl) (Or.inr (Or.inr (Or.inr (Or.inr (Or.inr (Or.inl ⟨_, rfl, rfl⟩)))))) ?_
              have hin55 : inR ro 21 = true := inR_of (by omega) (by omega)
              obtain ⟨I56, eI56⟩ : ∃ X, X = up2 I52 125 (ro).toNatClampNeg (m2 + 1) := ⟨_, rfl⟩
              refine XW.fam (S' := (227, [(2, .int 3), (1, .int lv), (0, .ref 94)], [], (sh, I56, LQ49, R))) (M := mr_281) rfl (show mcode 281 226 = some (226, .iastore, 1, 0, 0, 0, _) from rfl) (Or.inr (Or.inr (Or.inr (Or.inl ⟨_, _, by rw [eI56]; exact sta_i c125 hin55, rfl⟩)))) ?_
              have hQ58 : QL sh R J b n N 1 (gPx (tK b n) 3000 9 0 ((i + 1 + 1) + 1)) (sh, I56, LQ49, R) := by rw [eI56]; exact LQ_125 hJ rfl rfl hL53 (by omega) (by omega) ern (by have z := hgo9.1; show 2 * ((mv.toInt.toNat : Int) + 1) ≤ (((gPx (tK b n) 3000 9 0 ((i + 1 + 1) + 1)).2 : Nat) : Int) + 1; omega)
              refine XW.ret (r := none) ⟨rfl, by decide +kernel⟩ ?_
              have eL : gLn (tK b n) 3000 i = (gPx (tK b n) 3000 9 0 ((i + 1 + 1) + 1)) := by
                unfold gLn
                rw [if_neg (by omega), if_neg (by omega), if_pos (by omega)]
                rw [if_pos (by omega)]
                rw [gB_t (r := (true, i + 1 + 1)) rfl]
                show (if tK b n (i + 1 + 1) = 260 ∧ (tK b n i = 256 ∨ tK b n i = 259) then gPx (tK b n) 3000 9 0 (i + 1 + 1 + 1) else (true, i + 1 + 1)) = _
                exact if_pos (by omega)
              rw [eL]
              exact ⟨rfl, hQ58⟩
          | false =>
            have gk23 : ¬ ((tk1).toInt = 2) := icF (c := .eq) (a := (tk1).toInt) (b := 2) rfl (by decide) k23
            refine XW.fam (S' := (130, [(2, .int 3), (1, .int lv), (0, .ref 94)], [], (sh, I18, LQ8, R))) (M := mr_281) rfl (show mcode 281 127 = some (127, .if_icmp .eq 8, 3, 135, 0, 0, _) from rfl) (Or.inr (Or.inl ⟨130, [], by simp [brn, k23], rfl⟩)) ?_
            refine XW.fam (S' := (131, [(2, .int 3), (1, .int lv), (0, .ref 94)], [.ref 94], (sh, I18, LQ8, R))) (M := mr_281) rfl (show mcode 281 130 = some (130, .aload_n 0, 1, 0, 0, 0, _) from rfl) (Or.inl ⟨.ref 94, rfl, rfl⟩) ?_
            refine XW.call (d' := d) (mc' := 0) (ms' := 0) (av := [.ref 94]) (rest := []) (M := mr_281) (Ma := mr_283) rfl (show mcode 281 131 = some (131, .invokevirtual 382, 3, 283, 0, 0, _) from rfl) rfl (by decide) (by decide) ⟨rfl, 94, _, rfl, c94⟩ rfl rfl (show 0 ≤ 8 by decide) (tc_wrM (d := d) (h2 := 0) hB20 hq21) (by omega) (Nat.zero_le _) (Nat.zero_le _) (fun rQ59 wQ59 Q59 => ?_)
            obtain ⟨hrQ59, hqQ59⟩ := Q59
            subst hrQ59
            obtain ⟨shQ59, IQ59, LQ59, RQ59⟩ := wQ59
            obtain rfl : sh = shQ59 := hqQ59.2.1.2.2.2.1.symm
            obtain rfl : R = RQ59 := hqQ59.2.1.2.2.2.2.1.symm
            have hL60 : LQ sh R J b n N (130 * nv J 94 52 + mv.toInt.toNat) (nv J 94 52) mv.toInt.toNat 1 0 (false, i + 1) (sh, IQ59, LQ59, R) := LQ_of hL19 rfl (by decide) hqQ59 (Int.le_refl _)
            refine XW.ret (r := none) ⟨rfl, by decide +kernel⟩ ?_
            have eL : gLn (tK b n) 3000 i = (false, i + 1) := by
              unfold gLn
              rw [if_neg (by omega), if_neg (by omega), if_pos (by omega)]
              rw [if_neg (by omega)]
              rfl
            rw [eL]
            exact ⟨rfl, QL_f hL60 rfl⟩
      · skip
        refine XW.fam (S' := (57, [(1, .int lv), (0, .ref 94)], [], (sh, I, L, R))) (M := mr_281) rfl (show mcode 281 54 = some (54, .ifCond .eq 7, 3, 61, 0, 0, _) from rfl) (Or.inr (Or.inl ⟨57, [], rfl, rfl⟩)) ?_
        refine XW.fam (S' := (58, [(1, .int lv), (0, .ref 94)], [.int 2], (sh, I, L, R))) (M := mr_281) rfl (show mcode 281 57 = some (57, .iconst 2, 1, 0, 0, 0, _) from rfl) (Or.inl ⟨.int 2, rfl, rfl⟩) ?_
        refine XW.fam (S' := (76, [(1, .int lv), (0, .ref 94)], [.int 2], (sh, I, L, R))) (M := mr_281) rfl (show mcode 281 58 = some (58, .goto 18, 3, 76, 0, 0, _) from rfl) (Or.inr (Or.inl ⟨76, [.int 2], rfl, rfl⟩)) ?_
        refine XW.fam (S' := (77, [(2, .int 2), (1, .int lv), (0, .ref 94)], [], (sh, I, L, R))) (M := mr_281) rfl (show mcode 281 76 = some (76, .istore_n 2, 1, 0, 0, 0, _) from rfl) (Or.inr (Or.inr (Or.inr (Or.inr (Or.inr (Or.inr (Or.inl ⟨_, [], _, rfl, rfl, rfl⟩))))))) ?_
        refine XW.fam (S' := (78, [(2, .int 2), (1, .int lv), (0, .ref 94)], [.int 2], (sh, I, L, R))) (M := mr_281) rfl (show mcode 281 77 = some (77, .iload_n 2, 1, 0, 0, 0, _) from rfl) (Or.inl ⟨.int 2, rfl, rfl⟩) ?_
        refine XW.fam (S' := (86, [(2, .int 2), (1, .int lv), (0, .ref 94)], [], (sh, I, L, R))) (M := mr_281) rfl (show mcode 281 78 = some (78, .ifCond .ge 8, 3, 86, 0, 0, _) from rfl) (Or.inr (Or.inl ⟨86, [], rfl, rfl⟩)) ?_
        refine XW.fam (S' := (87, [(2, .int 2), (1, .int lv), (0, .ref 94)], [.ref 94], (sh, I, L, R))) (M := mr_281) rfl (show mcode 281 86 = some (86, .aload_n 0, 1, 0, 0, 0, _) from rfl) (Or.inl ⟨.ref 94, rfl, rfl⟩) ?_
        refine XW.call (d' := d + 2) (mc' := 0) (ms' := 0) (av := [.ref 94]) (rest := []) (M := mr_281) (Ma := mr_278) rfl (show mcode 281 87 = some (87, .invokevirtual 385, 3, 278, 0, 0, _) from rfl) rfl (by decide) (by decide) ⟨rfl, 94, _, rfl, c94⟩ rfl rfl (show 0 ≤ 8 by decide) (tc_nxtM (d := d) (c2 := 1) hB hq (lt_N hN hle (by omega)) rfl) (by omega) (Nat.zero_le _) (Nat.zero_le _) (fun rQ61 wQ61 Q61 => ?_)
        obtain ⟨hrQ61, hqQ61⟩ := Q61
        subst hrQ61
        obtain ⟨shQ61, IQ61, LQ61, RQ61⟩ := wQ61
        obtain rfl : sh = shQ61 := hqQ61.2.1.2.2.2.1.symm
        obtain rfl : R = RQ61 := hqQ61.2.1.2.2.2.2.1.symm
        have hle1 : i + 1 ≤ N := lt_N hN hle (by omega)
        have hl53 : ∀ z : Int32, z = IQ61 94 53 → z.toInt ≤ 239 := by
          intro z ez
          rw [ez]
          have z1 : (IQ61 94 53).toInt + 1 ≤ ((i + 1 : Nat) : Int) := hqQ61.2.2.2.1.1
          omega
        have hL62 : LQ sh R J b n N (130 * nv J 94 52 + mv.toInt.toNat) (nv J 94 52) mv.toInt.toNat 0 h (true, i + 1) (sh, IQ61, LQ61, R) := LQ_of hL0 rfl (by decide) hqQ61 (by decide)
        refine XW.fam (S' := (91, [(2, .int 2), (1, .int lv), (0, .ref 94)], [.ref 94], (sh, IQ61, LQ61, R))) (M := mr_281) rfl (show mcode 281 90 = some (90, .aload_n 0, 1, 0, 0, 0, _) from rfl) (Or.inl ⟨.ref 94, rfl, rfl⟩) ?_
        refine XW.fam (S' := (94, [(2, .int 2), (1, .int lv), (0, .ref 94)], [.ref 126], (sh, IQ61, LQ61, R))) (M := mr_281) rfl (show mcode 281 91 = some (91, .getfield 109, 3, 12, 39, 0, _) from rfl) (Or.inr (Or.inr (Or.inr (Or.inr (Or.inr (Or.inr (Or.inr (Or.inl ⟨_, _, rfl, fl_ld c94 r94_39 (by decide) (by decide), rfl⟩)))))))) ?_
        refine XW.fam (S' := (95, [(2, .int 2), (1, .int lv), (0, .ref 94)], [.int lv, .ref 126], (sh, IQ61, LQ61, R))) (M := mr_281) rfl (show mcode 281 94 = some (94, .iload_n 1, 1, 0, 0, 0, _) from rfl) (Or.inl ⟨.int lv, rfl, rfl⟩) ?_
        refine XW.fam (S' := (96, [(2, .int 2), (1, .int lv), (0, .ref 94)], [.int 2, .int lv, .ref 126], (sh, IQ61, LQ61, R))) (M := mr_281) rfl (show mcode 281 95 = some (95, .iload_n 2, 1, 0, 0, 0, _) from rfl) (Or.inl ⟨.int 2, rfl, rfl⟩) ?_
        have hin63 : inR lv 2730 = true := inR_of (by omega) (by omega)
        obtain ⟨I64, eI64⟩ : ∃ X, X = up2 IQ61 126 (lv).toNatClampNeg 2 := ⟨_, rfl⟩
        refine XW.fam (S' := (97, [(2, .int 2), (1, .int lv), (0, .ref 94)], [], (sh, I64, LQ61, R))) (M := mr_281) rfl (show mcode 281 96 = some (96, .iastore, 1, 0, 0, 0, _) from rfl) (Or.inr (Or.inr (Or.inr (Or.inl ⟨_, _, by rw [eI64]; exact sta_i c126 hin63, rfl⟩)))) ?_
        have xbI64 := i32b (2 : Int32)
        unfold lo32 hi32 at xbI64
        have hwI64 : wOK (mkT vV []) (wE sh R) (sh, I64, LQ61, R) := by rw [eI64]; exact wOK_u2 (q := 126) (k := (lv).toNatClampNeg) (x := 2) wE_put hL62.2.1 rfl (by show (0 : Int) ≤ _; omega) (by show _ ≤ (3 : Int); omega)
        have hfI64 : fresh (sh, I64, LQ61, R) := by rw [eI64]; exact fresh_I hL62.1 c126
        have hL65 : LQ sh R J b n N (130 * nv J 94 52 + mv.toInt.toNat) (nv J 94 52) mv.toInt.toNat 0 h (true, i + 1) (sh, I64, LQ61, R) := by rw [eI64] at hwI64 hfI64 ⊢; exact LQ_free hL62 (by decide) hwI64 hfI64
        obtain ⟨lw, elw⟩ : ∃ z : Int32, I64 94 53 = z := ⟨_, rfl⟩
        refine XW.gh (q := 94) (g := 202) (x := lw) c94 (by decide +kernel) ?_
        refine XW.gh (q := 94) (g := 203) (x := lw) c94 (by decide +kernel) ?_
        refine XW.gh (q := 94) (g := 200) (x := 0) c94 (by decide +kernel) ?_
        obtain ⟨Ig66, eIg⟩ : ∃ X, X = up2 (up2 (up2 I64 94 202 lw) 94 203 lw) 94 200 0 := ⟨_, rfl⟩
        rw [← eIg]
        have vlw : Ig66 94 53 = lw := by rw [eIg, up2_ne (by decide), up2_ne (by decide), up2_ne (by decide)]; exact elw
        have hlw : lw.toInt ≤ 239 := hl53 lw (by rw [← elw, eI64, up2_ne (fun e => by cases e.1)])
        refine XW.fam (S' := (98, [(2, .int 2), (1, .int lv), (0, .ref 94)], [.ref 94], (sh, Ig66, LQ61, R))) (M := mr_281) rfl (show mcode 281 97 = some (97, .aload_n 0, 1, 0, 0, 0, _) from rfl) (Or.inl ⟨.ref 94, rfl, rfl⟩) ?_
        refine XW.fam (S' := (101, [(2, .int 2), (1, .int lv), (0, .ref 94)], [.ref 128], (sh, Ig66, LQ61, R))) (M := mr_281) rfl (show mcode 281 98 = some (98, .getfield 115, 3, 12, 41, 0, _) from rfl) (Or.inr (Or.inr (Or.inr (Or.inr (Or.inr (Or.inr (Or.inr (Or.inl ⟨_, _, rfl, fl_ld c94 r94_41 (by decide) (by decide), rfl⟩)))))))) ?_
        refine XW.fam (S' := (102, [(2, .int 2), (1, .int lv), (0, .ref 94)], [.int lv, .ref 128], (sh, Ig66, LQ61, R))) (M := mr_281) rfl (show mcode 281 101 = some (101, .iload_n 1, 1, 0, 0, 0, _) from rfl) (Or.inl ⟨.int lv, rfl, rfl⟩) ?_
        refine XW.fam (S' := (103, [(2, .int 2), (1, .int lv), (0, .ref 94)], [.ref 94, .int lv, .ref 128], (sh, Ig66, LQ61, R))) (M := mr_281) rfl (show mcode 281 102 = some (102, .aload_n 0, 1, 0, 0, 0, _) from rfl) (Or.inl ⟨.ref 94, rfl, rfl⟩) ?_
        refine XW.fam (S' := (106, [(2, .int 2), (1, .int lv), (0, .ref 94)], [.int (Ig66 94 53), .int lv, .ref 128], (sh, Ig66, LQ61, R))) (M := mr_281) rfl (show mcode 281 103 = some (103, .getfield 376, 3, 12, 53, 0, _) from rfl) (Or.inr (Or.inr (Or.inr (Or.inr (Or.inr (Or.inr (Or.inr (Or.inl ⟨_, _, rfl, fl_ldI c94 (by decide) (by decide), rfl⟩)))))))) ?_
        rw [vlw]
        have hin67 : inR lv 2730 = true := inR_of (by omega) (by omega)
        obtain ⟨I68, eI68⟩ : ∃ X, X = up2 Ig66 128 (lv).toNatClampNeg lw := ⟨_, rfl⟩
        refine XW.fam (S' := (107, [(2, .int 2), (1, .int lv), (0, .ref 94)], [], (sh, I68, LQ61, R))) (M := mr_281) rfl (show mcode 281 106 = some (106, .iastore, 1, 0, 0, 0, _) from rfl) (Or.inr (Or.inr (Or.inr (Or.inl ⟨_, _, by rw [eI68]; exact sta_i c128 hin67, rfl⟩)))) ?_
        have hL69 : LQ sh R J b n N (130 * nv J 94 52 + mv.toInt.toNat) (nv J 94 52) mv.toInt.toNat 1 0 (true, i + 1) (sh, I68, LQ61, R) := by rw [eI68, eIg]; exact LQ_128 hJ rfl rfl hL65 elw.symm (by omega) eln
        refine XW.fam (S' := (108, [(2, .int 2), (1, .int lv), (0, .ref 94)], [.int 2], (sh, I68, LQ61, R))) (M := mr_281) rfl (show mcode 281 107 = some (107, .iload_n 2, 1, 0, 0, 0, _) from rfl) (Or.inl ⟨.int 2, rfl, rfl⟩) ?_
        refine XW.fam (S' := (109, [(2, .int 2), (1, .int lv), (0, .ref 94)], [.int 3, .int 2], (sh, I68, LQ61, R))) (M := mr_281) rfl (show mcode 281 108 = some (108, .iconst 3, 1, 0, 0, 0, _) from rfl) (Or.inl ⟨.int 3, rfl, rfl⟩) ?_
        refine XW.fam (S' := (142, [(2, .int 2), (1, .int lv), (0, .ref 94)], [], (sh, I68, LQ61, R))) (M := mr_281) rfl (show mcode 281 109 = some (109, .if_icmp .ne 33, 3, 142, 0, 0, _) from rfl) (Or.inr (Or.inl ⟨142, [], rfl, rfl⟩)) ?_
        refine XW.fam (S' := (143, [(2, .int 2), (1, .int lv), (0, .ref 94)], [.int 2], (sh, I68, LQ61, R))) (M := mr_281) rfl (show mcode 281 142 = some (142, .iload_n 2, 1, 0, 0, 0, _) from rfl) (Or.inl ⟨.int 2, rfl, rfl⟩) ?_
        refine XW.fam (S' := (144, [(2, .int 2), (1, .int lv), (0, .ref 94)], [.int 2, .int 2], (sh, I68, LQ61, R))) (M := mr_281) rfl (show mcode 281 143 = some (143, .iconst 2, 1, 0, 0, 0, _) from rfl) (Or.inl ⟨.int 2, rfl, rfl⟩) ?_
        refine XW.fam (S' := (151, [(2, .int 2), (1, .int lv), (0, .ref 94)], [], (sh, I68, LQ61, R))) (M := mr_281) rfl (show mcode 281 144 = some (144, .if_icmp .eq 7, 3, 151, 0, 0, _) from rfl) (Or.inr (Or.inl ⟨151, [], rfl, rfl⟩)) ?_
        obtain ⟨lw, elw⟩ : ∃ z : Int32, I68 94 53 = z := ⟨_, rfl⟩
        refine XW.gh (q := 94) (g := 203) (x := lw) c94 (by decide +kernel) ?_
        refine XW.gh (q := 94) (g := 200) (x := 0) c94 (by decide +kernel) ?_
        obtain ⟨Ig70, eIg⟩ : ∃ X, X = up2 (up2 I68 94 203 lw) 94 200 0 := ⟨_, rfl⟩
        rw [← eIg]
        have vlw : Ig70 94 53 = lw := by rw [eIg, up2_ne (by decide), up2_ne (by decide)]; exact elw
        have hlw : 0 ≤ lw.toInt ∧ lw.toInt ≤ 241 := by rw [← elw]; exact hL69.2.1.2.2.1 94 53
        refine XW.fam (S' := (152, [(2, .int 2), (1, .int lv), (0, .ref 94)], [.ref 94], (sh, Ig70, LQ61, R))) (M := mr_281) rfl (show mcode 281 151 = some (151, .aload_n 0, 1, 0, 0, 0, _) from rfl) (Or.inl ⟨.ref 94, rfl, rfl⟩) ?_
        refine XW.fam (S' := (155, [(2, .int 2), (1, .int lv), (0, .ref 94)], [.ref 129], (sh, Ig70, LQ61, R))) (M := mr_281) rfl (show mcode 281 152 = some (152, .getfield 118, 3, 12, 42, 0, _) from rfl) (Or.inr (Or.inr (Or.inr (Or.inr (Or.inr (Or.inr (Or.inr (Or.inl ⟨_, _, rfl, fl_ld c94 r94_42 (by decide) (by decide), rfl⟩)))))))) ?_
        refine XW.fam (S' := (156, [(2, .int 2), (1, .int lv), (0, .ref 94)], [.int lv, .ref 129], (sh, Ig70, LQ61, R))) (M := mr_281) rfl (show mcode 281 155 = some (155, .iload_n 1, 1, 0, 0, 0, _) from rfl) (Or.inl ⟨.int lv, rfl, rfl⟩) ?_
        refine XW.fam (S' := (157, [(2, .int 2), (1, .int lv), (0, .ref 94)], [.ref 94, .int lv, .ref 129], (sh, Ig70, LQ61, R))) (M := mr_281) rfl (show mcode 281 156 = some (156, .aload_n 0, 1, 0, 0, 0, _) from rfl) (Or.inl ⟨.ref 94, rfl, rfl⟩) ?_
        refine XW.fam (S' := (160, [(2, .int 2), (1, .int lv), (0, .ref 94)], [.int (Ig70 94 53), .int lv, .ref 129], (sh, Ig70, LQ61, R))) (M := mr_281) rfl (show mcode 281 157 = some (157, .getfield 376, 3, 12, 53, 0, _) from rfl) (Or.inr (Or.inr (Or.inr (Or.inr (Or.inr (Or.inr (Or.inr (Or.inl ⟨_, _, rfl, fl_ldI c94 (by decide) (by decide), rfl⟩)))))))) ?_
        rw [vlw]
        have hin71 : inR lv 2730 = true := inR_of (by omega) (by omega)
        obtain ⟨I72, eI72⟩ : ∃ X, X = up2 Ig70 129 (lv).toNatClampNeg lw := ⟨_, rfl⟩
        refine XW.fam (S' := (161, [(2, .int 2), (1, .int lv), (0, .ref 94)], [], (sh, I72, LQ61, R))) (M := mr_281) rfl (show mcode 281 160 = some (160, .iastore, 1, 0, 0, 0, _) from rfl) (Or.inr (Or.inr (Or.inr (Or.inl ⟨_, _, by rw [eI72]; exact sta_i c129 hin71, rfl⟩)))) ?_
        have hL73 : LQ sh R J b n N (130 * nv J 94 52 + mv.toInt.toNat) (nv J 94 52) mv.toInt.toNat 2 0 (true, i + 1) (sh, I72, LQ61, R) := by rw [eI72, eIg]; exact LQ_129t hJ rfl rfl hL69 elw.symm eln rfl
        obtain ⟨fl74, efl74⟩ : ∃ z : Int32, I72 94 50 = z := ⟨_, rfl⟩
        have hfl74 : fl74.toInt = -1 := by rw [← efl74]; exact (hL73.2.2.2.1.2.1 rfl).2.1
        refine XW.fam (S' := (162, [(2, .int 2), (1, .int lv), (0, .ref 94)], [.ref 94], (sh, I72, LQ61, R))) (M := mr_281) rfl (show mcode 281 161 = some (161, .aload_n 0, 1, 0, 0, 0, _) from rfl) (Or.inl ⟨.ref 94, rfl, rfl⟩) ?_
        refine XW.fam (S' := (165, [(2, .int 2), (1, .int lv), (0, .ref 94)], [.int (I72 94 50)], (sh, I72, LQ61, R))) (M := mr_281) rfl (show mcode 281 162 = some (162, .getfield 370, 3, 12, 50, 0, _) from rfl) (Or.inr (Or.inr (Or.inr (Or.inr (Or.inr (Or.inr (Or.inr (Or.inl ⟨_, _, rfl, fl_ldI c94 (by decide) (by decide), rfl⟩)))))))) ?_
        rw [efl74]
        have k75 : bcmp .lt fl74 0 = true := bcT (c := .lt) (a := (fl74).toInt) (b := 0) rfl (by decide) (by show (fl74).toInt < 0; omega)
        refine XW.fam (S' := (169, [(2, .int 2), (1, .int lv), (0, .ref 94)], [], (sh, I72, LQ61, R))) (M := mr_281) rfl (show mcode 281 165 = some (165, .ifCond .lt 4, 3, 169, 0, 0, _) from rfl) (Or.inr (Or.inl ⟨169, [], by simp [brn, k75], rfl⟩)) ?_
        have hB76 : mBs I72 b n N := mBs_keep hL73.2.2.1 hJ
        have hq77 : QM sh R I72 b n N 0 0 0 (true, i + 1) (sh, I72, LQ61, R) := ⟨hL73.1, hL73.2.1, fun _ _ _ => rfl, hL73.2.2.2.1⟩
        have ga78 := gram_allM (d := d) (sh := sh) (J := I72) (R := R) hB76 3000
        have hjN : (i + 1) ≤ N := hL73.2.2.2.1.1.2
        refine XW.fam (S' := (170, [(2, .int 2), (1, .int lv), (0, .ref 94)], [.int 2], (sh, I72, LQ61, R))) (M := mr_281) rfl (show mcode 281 169 = some (169, .iload_n 2, 1, 0, 0, 0, _) from rfl) (Or.inl ⟨.int 2, rfl, rfl⟩) ?_
        refine XW.fam (S' := (171, [(2, .int 2), (1, .int lv), (0, .ref 94)], [.int 2, .int 2], (sh, I72, LQ61, R))) (M := mr_281) rfl (show mcode 281 170 = some (170, .iconst 2, 1, 0, 0, 0, _) from rfl) (Or.inl ⟨.int 2, rfl, rfl⟩) ?_
        refine XW.fam (S' := (174, [(2, .int 2), (1, .int lv), (0, .ref 94)], [], (sh, I72, LQ61, R))) (M := mr_281) rfl (show mcode 281 171 = some (171, .if_icmp .ne 10, 3, 181, 0, 0, _) from rfl) (Or.inr (Or.inl ⟨174, [], rfl, rfl⟩)) ?_
        refine XW.fam (S' := (175, [(2, .int 2), (1, .int lv), (0, .ref 94)], [.ref 94], (sh, I72, LQ61, R))) (M := mr_281) rfl (show mcode 281 174 = some (174, .aload_n 0, 1, 0, 0, 0, _) from rfl) (Or.inl ⟨.ref 94, rfl, rfl⟩) ?_
        refine XW.call (d' := (d + 4 + (6 * (8 - 0) + 6))) (mc' := 0) (ms' := 0) (av := [.ref 94]) (rest := []) (M := mr_281) (Ma := mr_291) rfl (show mcode 281 175 = some (175, .invokevirtual 424, 3, 291, 0, 0, _) from rfl) rfl (by decide) (by decide) ⟨rfl, 94, _, rfl, c94⟩ rfl rfl (show 0 ≤ 8 by decide) (ga78.2.2.2.2.2 0 (i + 1) 0 0 (by omega) (QM_wk hq77 (by omega)) (by omega) (by omega) (by omega)) (by omega) (Nat.zero_le _) (Nat.zero_le _) (fun rQ79 wQ79 Q79 => ?_)
        obtain ⟨hrQ79, hqQ79⟩ := Q79
        subst hrQ79
        obtain ⟨shQ79, IQ79, LQ79, RQ79⟩ := wQ79
        obtain rfl : sh = shQ79 := hqQ79.2.1.2.2.2.1.symm
        obtain rfl : R = RQ79 := hqQ79.2.1.2.2.2.2.1.symm
        have hL80 : LQ sh R J b n N (130 * nv J 94 52 + mv.toInt.toNat) (nv J 94 52) mv.toInt.toNat 2 (0 + 1) (gPx (tK b n) 3000 9 0 (i + 1)) (sh, IQ79, LQ79, R) := LQ_of hL73 rfl (by decide) hqQ79 (Int.le_refl _)
        have hgo := (gPx_ok hN 3000 0 (i + 1) hjN).1 9 (by omega)
        refine XW.fam (S' := (204, [(2, .int 2), (1, .int lv), (0, .ref 94)], [], (sh, IQ79, LQ79, R))) (M := mr_281) rfl (show mcode 281 178 = some (178, .goto 26, 3, 204, 0, 0, _) from rfl) (Or.inr (Or.inl ⟨204, [], rfl, rfl⟩)) ?_
        refine XW.fam (S' := (205, [(2, .int 2), (1, .int lv), (0, .ref 94)], [.ref 94], (sh, IQ79, LQ79, R))) (M := mr_281) rfl (show mcode 281 204 = some (204, .aload_n 0, 1, 0, 0, 0, _) from rfl) (Or.inl ⟨.ref 94, rfl, rfl⟩) ?_
        refine XW.fam (S' := (208, [(2, .int 2), (1, .int lv), (0, .ref 94)], [.ref 130], (sh, IQ79, LQ79, R))) (M := mr_281) rfl (show mcode 281 205 = some (205, .getfield 121, 3, 12, 43, 0, _) from rfl) (Or.inr (Or.inr (Or.inr (Or.inr (Or.inr (Or.inr (Or.inr (Or.inl ⟨_, _, rfl, fl_ld c94 r94_43 (by decide) (by decide), rfl⟩)))))))) ?_
        refine XW.fam (S' := (209, [(2, .int 2), (1, .int lv), (0, .ref 94)], [.int lv, .ref 130], (sh, IQ79, LQ79, R))) (M := mr_281) rfl (show mcode 281 208 = some (208, .iload_n 1, 1, 0, 0, 0, _) from rfl) (Or.inl ⟨.int lv, rfl, rfl⟩) ?_
        refine XW.fam (S' := (210, [(2, .int 2), (1, .int lv), (0, .ref 94)], [.ref 94, .int lv, .ref 130], (sh, IQ79, LQ79, R))) (M := mr_281) rfl (show mcode 281 209 = some (209, .aload_n 0, 1, 0, 0, 0, _) from rfl) (Or.inl ⟨.ref 94, rfl, rfl⟩) ?_
        refine XW.fam (S' := (213, [(2, .int 2), (1, .int lv), (0, .ref 94)], [.int (IQ79 94 53), .int lv, .ref 130], (sh, IQ79, LQ79, R))) (M := mr_281) rfl (show mcode 281 210 = some (210, .getfield 376, 3, 12, 53, 0, _) from rfl) (Or.inr (Or.inr (Or.inr (Or.inr (Or.inr (Or.inr (Or.inr (Or.inl ⟨_, _, rfl, fl_ldI c94 (by decide) (by decide), rfl⟩)))))))) ?_
        have hin81 : inR lv 2730 = true := inR_of (by omega) (by omega)
        obtain ⟨I82, eI82⟩ : ∃ X, X = up2 IQ79 130 (lv).toNatClampNeg (IQ79 94 53) := ⟨_, rfl⟩
        refine XW.fam (S' := (214, [(2, .int 2), (1, .int lv), (0, .ref 94)], [], (sh, I82, LQ79, R))) (M := mr_281) rfl (show mcode 281 213 = some (213, .iastore, 1, 0, 0, 0, _) from rfl) (Or.inr (Or.inr (Or.inr (Or.inl ⟨_, _, by rw [eI82]; exact sta_i c130 hin81, rfl⟩)))) ?_
        have hL83 : LQ sh R J b n N (130 * nv J 94 52 + mv.toInt.toNat) (nv J 94 52) mv.toInt.toNat 3 (0 + 1) (gPx (tK b n) 3000 9 0 (i + 1)) (sh, I82, LQ79, R) := by rw [eI82]; exact LQ_130 hJ rfl rfl hL80 rfl eln
        have k52 : I82 94 52 = ro := (hL83.2.2.1 94 52 rfl).trans ((hkR 94 52 rfl).symm.trans ero)
        obtain ⟨m2, em2⟩ : ∃ z : Int32, I82 125 (ro).toNatClampNeg = z := ⟨_, rfl⟩
        have hm2 : m2.toInt = mv.toInt := by have z : (I82 125 (nv J 94 52)).toInt = (mv.toInt.toNat : Int) := hL83.2.2.2.2.1; rw [← em2, ern, z]; omega
        have xi := inc32 (m := m2) (by omega) (by omega)
        refine XW.fam (S' := (215, [(2, .int 2), (1, .int lv), (0, .ref 94)], [.ref 94], (sh, I82, LQ79, R))) (M := mr_281) rfl (show mcode 281 214 = some (214, .aload_n 0, 1, 0, 0, 0, _) from rfl) (Or.inl ⟨.ref 94, rfl, rfl⟩) ?_
        refine XW.fam (S' := (218, [(2, .int 2), (1, .int lv), (0, .ref 94)], [.ref 125], (sh, I82, LQ79, R))) (M := mr_281) rfl (show mcode 281 215 = some (215, .getfield 106, 3, 12, 38, 0, _) from rfl) (Or.inr (Or.inr (Or.inr (Or.inr (Or.inr (Or.inr (Or.inr (Or.inl ⟨_, _, rfl, fl_ld c94 r94_38 (by decide) (by decide), rfl⟩)))))))) ?_
        refine XW.fam (S' := (219, [(2, .int 2), (1, .int lv), (0, .ref 94)], [.ref 94, .ref 125], (sh, I82, LQ79, R))) (M := mr_281) rfl (show mcode 281 218 = some (218, .aload_n 0, 1, 0, 0, 0, _) from rfl) (Or.inl ⟨.ref 94, rfl, rfl⟩) ?_
        refine XW.fam (S' := (222, [(2, .int 2), (1, .int lv), (0, .ref 94)], [.int (I82 94 52), .ref 125], (sh, I82, LQ79, R))) (M := mr_281) rfl (show mcode 281 219 = some (219, .getfield 373, 3, 12, 52, 0, _) from rfl) (Or.inr (Or.inr (Or.inr (Or.inr (Or.inr (Or.inr (Or.inr (Or.inl ⟨_, _, rfl, fl_ldI c94 (by decide) (by decide), rfl⟩)))))))) ?_
        rw [k52]
        refine XW.fam (S' := (223, [(2, .int 2), (1, .int lv), (0, .ref 94)], [.int ro, .ref 125, .int ro, .ref 125], (sh, I82, LQ79, R))) (M := mr_281) rfl (show mcode 281 222 = some (222, .dup2, 1, 0, 0, 0, _) from rfl) (Or.inr (Or.inr (Or.inr (Or.inr (Or.inr (Or.inl ⟨_, rfl, rfl⟩)))))) ?_
        have hin84 : inR ro 21 = true := inR_of (by omega) (by omega)
        refine XW.fam (S' := (224, [(2, .int 2), (1, .int lv), (0, .ref 94)], [.int (I82 125 (ro).toNatClampNeg), .int ro, .ref 125], (sh, I82, LQ79, R))) (M := mr_281) rfl (show mcode 281 223 = some (223, .iaload, 1, 0, 0, 0, _) from rfl) (Or.inr (Or.inr (Or.inl ⟨_, lda_i c125 hin84, rfl⟩))) ?_
        rw [em2]
        refine XW.fam (S' := (225, [(2, .int 2), (1, .int lv), (0, .ref 94)], [.int 1, .int m2, .int ro, .ref 125], (sh, I82, LQ79, R))) (M := mr_281) rfl (show mcode 281 224 = some (224, .iconst 1, 1, 0, 0, 0, _) from rfl) (Or.inl ⟨.int 1, rfl, rfl⟩) ?_
        refine XW.fam (S' := (226, [(2, .int 2), (1, .int lv), (0, .ref 94)], [.int (m2 + 1), .int ro, .ref 125], (sh, I82, LQ79, R))) (M := mr_281) rfl (show mcode 281 225 = some (225, .iadd, 1, 0, 0, 0, _) from rfl) (Or.inr (Or.inr (Or.inr (Or.inr (Or.inr (Or.inl ⟨_, rfl, rfl⟩)))))) ?_
        have hin85 : inR ro 21 = true := inR_of (by omega) (by omega)
        obtain ⟨I86, eI86⟩ : ∃ X, X = up2 I82 125 (ro).toNatClampNeg (m2 + 1) := ⟨_, rfl⟩
        refine XW.fam (S' := (227, [(2, .int 2), (1, .int lv), (0, .ref 94)], [], (sh, I86, LQ79, R))) (M := mr_281) rfl (show mcode 281 226 = some (226, .iastore, 1, 0, 0, 0, _) from rfl) (Or.inr (Or.inr (Or.inr (Or.inl ⟨_, _, by rw [eI86]; exact sta_i c125 hin85, rfl⟩)))) ?_
        have hQ88 : QL sh R J b n N 1 (gPx (tK b n) 3000 9 0 (i + 1)) (sh, I86, LQ79, R) := by rw [eI86]; exact LQ_125 hJ rfl rfl hL83 (by omega) (by omega) ern (by have z := hgo.1; show 2 * ((mv.toInt.toNat : Int) + 1) ≤ (((gPx (tK b n) 3000 9 0 (i + 1)).2 : Nat) : Int) + 1; omega)
        refine XW.ret (r := none) ⟨rfl, by decide +kernel⟩ ?_
        have eL : gLn (tK b n) 3000 i = (gPx (tK b n) 3000 9 0 (i + 1)) := by
          unfold gLn
          rw [if_neg (by omega), if_pos (by omega)]
          cases e : (gPx (tK b n) 3000 9 0 (i + 1)).1 with
          | true =>
            rw [gB_t e, if_neg (by omega)]
            exact (Prod.ext e rfl : (gPx (tK b n) 3000 9 0 (i + 1)) = (true, (gPx (tK b n) 3000 9 0 (i + 1)).2)).symm
          | false => exact gB_f e
        rw [eL]
        exact ⟨rfl, hQ88⟩
    · skip
      refine XW.fam (S' := (43, [(1, .int lv), (0, .ref 94)], [], (sh, I, L, R))) (M := mr_281) rfl (show mcode 281 40 = some (40, .ifCond .eq 7, 3, 47, 0, 0, _) from rfl) (Or.inr (Or.inl ⟨43, [], rfl, rfl⟩)) ?_
      refine XW.fam (S' := (44, [(1, .int lv), (0, .ref 94)], [.int 1], (sh, I, L, R))) (M := mr_281) rfl (show mcode 281 43 = some (43, .iconst 1, 1, 0, 0, 0, _) from rfl) (Or.inl ⟨.int 1, rfl, rfl⟩) ?_
      refine XW.fam (S' := (76, [(1, .int lv), (0, .ref 94)], [.int 1], (sh, I, L, R))) (M := mr_281) rfl (show mcode 281 44 = some (44, .goto 32, 3, 76, 0, 0, _) from rfl) (Or.inr (Or.inl ⟨76, [.int 1], rfl, rfl⟩)) ?_
      refine XW.fam (S' := (77, [(2, .int 1), (1, .int lv), (0, .ref 94)], [], (sh, I, L, R))) (M := mr_281) rfl (show mcode 281 76 = some (76, .istore_n 2, 1, 0, 0, 0, _) from rfl) (Or.inr (Or.inr (Or.inr (Or.inr (Or.inr (Or.inr (Or.inl ⟨_, [], _, rfl, rfl, rfl⟩))))))) ?_
      refine XW.fam (S' := (78, [(2, .int 1), (1, .int lv), (0, .ref 94)], [.int 1], (sh, I, L, R))) (M := mr_281) rfl (show mcode 281 77 = some (77, .iload_n 2, 1, 0, 0, 0, _) from rfl) (Or.inl ⟨.int 1, rfl, rfl⟩) ?_
      refine XW.fam (S' := (86, [(2, .int 1), (1, .int lv), (0, .ref 94)], [], (sh, I, L, R))) (M := mr_281) rfl (show mcode 281 78 = some (78, .ifCond .ge 8, 3, 86, 0, 0, _) from rfl) (Or.inr (Or.inl ⟨86, [], rfl, rfl⟩)) ?_
      refine XW.fam (S' := (87, [(2, .int 1), (1, .int lv), (0, .ref 94)], [.ref 94], (sh, I, L, R))) (M := mr_281) rfl (show mcode 281 86 = some (86, .aload_n 0, 1, 0, 0, 0, _) from rfl) (Or.inl ⟨.ref 94, rfl, rfl⟩) ?_
      refine XW.call (d' := d + 2) (mc' := 0) (ms' := 0) (av := [.ref 94]) (rest := []) (M := mr_281) (Ma := mr_278) rfl (show mcode 281 87 = some (87, .invokevirtual 385, 3, 278, 0, 0, _) from rfl) rfl (by decide) (by decide) ⟨rfl, 94, _, rfl, c94⟩ rfl rfl (show 0 ≤ 8 by decide) (tc_nxtM (d := d) (c2 := 1) hB hq (lt_N hN hle (by omega)) rfl) (by omega) (Nat.zero_le _) (Nat.zero_le _) (fun rQ89 wQ89 Q89 => ?_)
      obtain ⟨hrQ89, hqQ89⟩ := Q89
      subst hrQ89
      obtain ⟨shQ89, IQ89, LQ89, RQ89⟩ := wQ89
      obtain rfl : sh = shQ89 := hqQ89.2.1.2.2.2.1.symm
      obtain rfl : R = RQ89 := hqQ89.2.1.2.2.2.2.1.symm
      have hle1 : i + 1 ≤ N := lt_N hN hle (by omega)
      have hl53 : ∀ z : Int32, z = IQ89 94 53 → z.toInt ≤ 239 := by
        intro z ez
        rw [ez]
        have z1 : (IQ89 94 53).toInt + 1 ≤ ((i + 1 : Nat) : Int) := hqQ89.2.2.2.1.1
        omega
      have hL90 : LQ sh R J b n N (130 * nv J 94 52 + mv.toInt.toNat) (nv J 94 52) mv.toInt.toNat 0 h (true, i + 1) (sh, IQ89, LQ89, R) := LQ_of hL0 rfl (by decide) hqQ89 (by decide)
      refine XW.fam (S' := (91, [(2, .int 1), (1, .int lv), (0, .ref 94)], [.ref 94], (sh, IQ89, LQ89, R))) (M := mr_281) rfl (show mcode 281 90 = some (90, .aload_n 0, 1, 0, 0, 0, _) from rfl) (Or.inl ⟨.ref 94, rfl, rfl⟩) ?_
      refine XW.fam (S' := (94, [(2, .int 1), (1, .int lv), (0, .ref 94)], [.ref 126], (sh, IQ89, LQ89, R))) (M := mr_281) rfl (show mcode 281 91 = some (91, .getfield 109, 3, 12, 39, 0, _) from rfl) (Or.inr (Or.inr (Or.inr (Or.inr (Or.inr (Or.inr (Or.inr (Or.inl ⟨_, _, rfl, fl_ld c94 r94_39 (by decide) (by decide), rfl⟩)))))))) ?_
      refine XW.fam (S' := (95, [(2, .int 1), (1, .int lv), (0, .ref 94)], [.int lv, .ref 126], (sh, IQ89, LQ89, R))) (M := mr_281) rfl (show mcode 281 94 = some (94, .iload_n 1, 1, 0, 0, 0, _) from rfl) (Or.inl ⟨.int lv, rfl, rfl⟩) ?_
      refine XW.fam (S' := (96, [(2, .int 1), (1, .int lv), (0, .ref 94)], [.int 1, .int lv, .ref 126], (sh, IQ89, LQ89, R))) (M := mr_281) rfl (show mcode 281 95 = some (95, .iload_n 2, 1, 0, 0, 0, _) from rfl) (Or.inl ⟨.int 1, rfl, rfl⟩) ?_
      have hin91 : inR lv 2730 = true := inR_of (by omega) (by omega)
      obtain ⟨I92, eI92⟩ : ∃ X, X = up2 IQ89 126 (lv).toNatClampNeg 1 := ⟨_, rfl⟩
      refine XW.fam (S' := (97, [(2, .int 1), (1, .int lv), (0, .ref 94)], [], (sh, I92, LQ89, R))) (M := mr_281) rfl (show mcode 281 96 = some (96, .iastore, 1, 0, 0, 0, _) from rfl) (Or.inr (Or.inr (Or.inr (Or.inl ⟨_, _, by rw [eI92]; exact sta_i c126 hin91, rfl⟩)))) ?_
      have xbI92 := i32b (1 : Int32)
      unfold lo32 hi32 at xbI92
      have hwI92 : wOK (mkT vV []) (wE sh R) (sh, I92, LQ89, R) := by rw [eI92]; exact wOK_u2 (q := 126) (k := (lv).toNatClampNeg) (x := 1) wE_put hL90.2.1 rfl (by show (0 : Int) ≤ _; omega) (by show _ ≤ (3 : Int); omega)
      have hfI92 : fresh (sh, I92, LQ89, R) := by rw [eI92]; exact fresh_I hL90.1 c126
      have hL93 : LQ sh R J b n N (130 * nv J 94 52 + mv.toInt.toNat) (nv J 94 52) mv.toInt.toNat 0 h (true, i + 1) (sh, I92, LQ89, R) := by rw [eI92] at hwI92 hfI92 ⊢; exact LQ_free hL90 (by decide) hwI92 hfI92
      obtain ⟨lw, elw⟩ : ∃ z : Int32, I92 94 53 = z := ⟨_, rfl⟩
      refine XW.gh (q := 94) (g := 202) (x := lw) c94 (by decide +kernel) ?_
      refine XW.gh (q := 94) (g := 203) (x := lw) c94 (by decide +kernel) ?_
      refine XW.gh (q := 94) (g := 200) (x := 0) c94 (by decide +kernel) ?_
      obtain ⟨Ig94, eIg⟩ : ∃ X, X = up2 (up2 (up2 I92 94 202 lw) 94 203 lw) 94 200 0 := ⟨_, rfl⟩
      rw [← eIg]
      have vlw : Ig94 94 53 = lw := by rw [eIg, up2_ne (by decide), up2_ne (by decide), up2_ne (by decide)]; exact elw
      have hlw : lw.toInt ≤ 239 := hl53 lw (by rw [← elw, eI92, up2_ne (fun e => by cases e.1)])
      refine XW.fam (S' := (98, [(2, .int 1), (1, .int lv), (0, .ref 94)], [.ref 94], (sh, Ig94, LQ89, R))) (M := mr_281) rfl (show mcode 281 97 = some (97, .aload_n 0, 1, 0, 0, 0, _) from rfl) (Or.inl ⟨.ref 94, rfl, rfl⟩) ?_
      refine XW.fam (S' := (101, [(2, .int 1), (1, .int lv), (0, .ref 94)], [.ref 128], (sh, Ig94, LQ89, R))) (M := mr_281) rfl (show mcode 281 98 = some (98, .getfield 115, 3, 12, 41, 0, _) from rfl) (Or.inr (Or.inr (Or.inr (Or.inr (Or.inr (Or.inr (Or.inr (Or.inl ⟨_, _, rfl, fl_ld c94 r94_41 (by decide) (by decide), rfl⟩)))))))) ?_
      refine XW.fam (S' := (102, [(2, .int 1), (1, .int lv), (0, .ref 94)], [.int lv, .ref 128], (sh, Ig94, LQ89, R))) (M := mr_281) rfl (show mcode 281 101 = some (101, .iload_n 1, 1, 0, 0, 0, _) from rfl) (Or.inl ⟨.int lv, rfl, rfl⟩) ?_
      refine XW.fam (S' := (103, [(2, .int 1), (1, .int lv), (0, .ref 94)], [.ref 94, .int lv, .ref 128], (sh, Ig94, LQ89, R))) (M := mr_281) rfl (show mcode 281 102 = some (102, .aload_n 0, 1, 0, 0, 0, _) from rfl) (Or.inl ⟨.ref 94, rfl, rfl⟩) ?_
      refine XW.fam (S' := (106, [(2, .int 1), (1, .int lv), (0, .ref 94)], [.int (Ig94 94 53), .int lv, .ref 128], (sh, Ig94, LQ89, R))) (M := mr_281) rfl (show mcode 281 103 = some (103, .getfield 376, 3, 12, 53, 0, _) from rfl) (Or.inr (Or.inr (Or.inr (Or.inr (Or.inr (Or.inr (Or.inr (Or.inl ⟨_, _, rfl, fl_ldI c94 (by decide) (by decide), rfl⟩)))))))) ?_
      rw [vlw]
      have hin95 : inR lv 2730 = true := inR_of (by omega) (by omega)
      obtain ⟨I96, eI96⟩ : ∃ X, X = up2 Ig94 128 (lv).toNatClampNeg lw := ⟨_, rfl⟩
      refine XW.fam (S' := (107, [(2, .int 1), (1, .int lv), (0, .ref 94)], [], (sh, I96, LQ89, R))) (M := mr_281) rfl (show mcode 281 106 = some (106, .iastore, 1, 0, 0, 0, _) from rfl) (Or.inr (Or.inr (Or.inr (Or.inl ⟨_, _, by rw [eI96]; exact sta_i c128 hin95, rfl⟩)))) ?_
      have hL97 : LQ sh R J b n N (130 * nv J 94 52 + mv.toInt.toNat) (nv J 94 52) mv.toInt.toNat 1 0 (true, i + 1) (sh, I96, LQ89, R) := by rw [eI96, eIg]; exact LQ_128 hJ rfl rfl hL93 elw.symm (by omega) eln
      have hB98 : mBs I96 b n N := mBs_keep hL97.2.2.1 hJ
      have hq99 : QM sh R I96 b n N 0 0 0 (true, i + 1) (sh, I96, LQ89, R) := ⟨hL97.1, hL97.2.1, fun _ _ _ => rfl, hL97.2.2.2.1⟩
      have ga100 := gram_allM (d := d) (sh := sh) (J := I96) (R := R) hB98 3000
      refine XW.fam (S' := (108, [(2, .int 1), (1, .int lv), (0, .ref 94)], [.int 1], (sh, I96, LQ89, R))) (M := mr_281) rfl (show mcode 281 107 = some (107, .iload_n 2, 1, 0, 0, 0, _) from rfl) (Or.inl ⟨.int 1, rfl, rfl⟩) ?_
      refine XW.fam (S' := (109, [(2, .int 1), (1, .int lv), (0, .ref 94)], [.int 3, .int 1], (sh, I96, LQ89, R))) (M := mr_281) rfl (show mcode 281 108 = some (108, .iconst 3, 1, 0, 0, 0, _) from rfl) (Or.inl ⟨.int 3, rfl, rfl⟩) ?_
      refine XW.fam (S' := (142, [(2, .int 1), (1, .int lv), (0, .ref 94)], [], (sh, I96, LQ89, R))) (M := mr_281) rfl (show mcode 281 109 = some (109, .if_icmp .ne 33, 3, 142, 0, 0, _) from rfl) (Or.inr (Or.inl ⟨142, [], rfl, rfl⟩)) ?_
      refine XW.fam (S' := (143, [(2, .int 1), (1, .int lv), (0, .ref 94)], [.int 1], (sh, I96, LQ89, R))) (M := mr_281) rfl (show mcode 281 142 = some (142, .iload_n 2, 1, 0, 0, 0, _) from rfl) (Or.inl ⟨.int 1, rfl, rfl⟩) ?_
      refine XW.fam (S' := (144, [(2, .int 1), (1, .int lv), (0, .ref 94)], [.int 2, .int 1], (sh, I96, LQ89, R))) (M := mr_281) rfl (show mcode 281 143 = some (143, .iconst 2, 1, 0, 0, 0, _) from rfl) (Or.inl ⟨.int 2, rfl, rfl⟩) ?_
      refine XW.fam (S' := (147, [(2, .int 1), (1, .int lv), (0, .ref 94)], [], (sh, I96, LQ89, R))) (M := mr_281) rfl (show mcode 281 144 = some (144, .if_icmp .eq 7, 3, 151, 0, 0, _) from rfl) (Or.inr (Or.inl ⟨147, [], rfl, rfl⟩)) ?_
      refine XW.fam (S' := (148, [(2, .int 1), (1, .int lv), (0, .ref 94)], [.ref 94], (sh, I96, LQ89, R))) (M := mr_281) rfl (show mcode 281 147 = some (147, .aload_n 0, 1, 0, 0, 0, _) from rfl) (Or.inl ⟨.ref 94, rfl, rfl⟩) ?_
      refine XW.call (d' := (d + 4 + (6 * (8 - 0) + 3))) (mc' := 0) (ms' := 0) (av := [.ref 94]) (rest := []) (M := mr_281) (Ma := mr_284) rfl (show mcode 281 148 = some (148, .invokevirtual 403, 3, 284, 0, 0, _) from rfl) rfl (by decide) (by decide) ⟨rfl, 94, _, rfl, c94⟩ rfl rfl (show 0 ≤ 8 by decide) (ga100.2.2.1 0 (i + 1) 0 0 (by omega) (QM_wk hq99 (by omega)) (by omega) (by omega) (by omega)) (by omega) (Nat.zero_le _) (Nat.zero_le _) (fun rQ101 wQ101 Q101 => ?_)
      obtain ⟨hrQ101, hqQ101⟩ := Q101
      subst hrQ101
      obtain ⟨shQ101, IQ101, LQ101, RQ101⟩ := wQ101
      obtain rfl : sh = shQ101 := hqQ101.2.1.2.2.2.1.symm
      obtain rfl : R = RQ101 := hqQ101.2.1.2.2.2.2.1.symm
      have hL102 : LQ sh R J b n N (130 * nv J 94 52 + mv.toInt.toNat) (nv J 94 52) mv.toInt.toNat 1 (0 + 1) (gPx (tK b n) 3000 4 0 (i + 1)) (sh, IQ101, LQ101, R) := LQ_of hL97 rfl (by decide) hqQ101 (Int.le_refl _)
      have hgo := (gPx_ok hN 3000 0 (i + 1) hle1).1 4 (by omega)
      have hgo1 := hgo.1
      have hgo2 := hgo.2.1
      cases e : (gPx (tK b n) 3000 4 0 (i + 1)).1 with
      | true =>
        obtain ⟨lw, elw⟩ : ∃ z : Int32, IQ101 94 53 = z := ⟨_, rfl⟩
        refine XW.gh (q := 94) (g := 203) (x := lw) c94 (by decide +kernel) ?_
        refine XW.gh (q := 94) (g := 200) (x := 0) c94 (by decide +kernel) ?_
        obtain ⟨Ig103, eIg⟩ : ∃ X, X = up2 (up2 IQ101 94 203 lw) 94 200 0 := ⟨_, rfl⟩
        rw [← eIg]
        have vlw : Ig103 94 53 = lw := by rw [eIg, up2_ne (by decide), up2_ne (by decide)]; exact elw
        have hlw : 0 ≤ lw.toInt ∧ lw.toInt ≤ 241 := by rw [← elw]; exact hL102.2.1.2.2.1 94 53
        refine XW.fam (S' := (152, [(2, .int 1), (1, .int lv), (0, .ref 94)], [.ref 94], (sh, Ig103, LQ101, R))) (M := mr_281) rfl (show mcode 281 151 = some (151, .aload_n 0, 1, 0, 0, 0, _) from rfl) (Or.inl ⟨.ref 94, rfl, rfl⟩) ?_
        refine XW.fam (S' := (155, [(2, .int 1), (1, .int lv), (0, .ref 94)], [.ref 129], (sh, Ig103, LQ101, R))) (M := mr_281) rfl (show mcode 281 152 = some (152, .getfield 118, 3, 12, 42, 0, _) from rfl) (Or.inr (Or.inr (Or.inr (Or.inr (Or.inr (Or.inr (Or.inr (Or.inl ⟨_, _, rfl, fl_ld c94 r94_42 (by decide) (by decide), rfl⟩)))))))) ?_
        refine XW.fam (S' := (156, [(2, .int 1), (1, .int lv), (0, .ref 94)], [.int lv, .ref 129], (sh, Ig103, LQ101, R))) (M := mr_281) rfl (show mcode 281 155 = some (155, .iload_n 1, 1, 0, 0, 0, _) from rfl) (Or.inl ⟨.int lv, rfl, rfl⟩) ?_
        refine XW.fam (S' := (157, [(2, .int 1), (1, .int lv), (0, .ref 94)], [.ref 94, .int lv, .ref 129], (sh, Ig103, LQ101, R))) (M := mr_281) rfl (show mcode 281 156 = some (156, .aload_n 0, 1, 0, 0, 0, _) from rfl) (Or.inl ⟨.ref 94, rfl, rfl⟩) ?_
        refine XW.fam (S' := (160, [(2, .int 1), (1, .int lv), (0, .ref 94)], [.int (Ig103 94 53), .int lv, .ref 129], (sh, Ig103, LQ101, R))) (M := mr_281) rfl (show mcode 281 157 = some (157, .getfield 376, 3, 12, 53, 0, _) from rfl) (Or.inr (Or.inr (Or.inr (Or.inr (Or.inr (Or.inr (Or.inr (Or.inl ⟨_, _, rfl, fl_ldI c94 (by decide) (by decide), rfl⟩)))))))) ?_
        rw [vlw]
        have hin104 : inR lv 2730 = true := inR_of (by omega) (by omega)
        obtain ⟨I105, eI105⟩ : ∃ X, X = up2 Ig103 129 (lv).toNatClampNeg lw := ⟨_, rfl⟩
        refine XW.fam (S' := (161, [(2, .int 1), (1, .int lv), (0, .ref 94)], [], (sh, I105, LQ101, R))) (M := mr_281) rfl (show mcode 281 160 = some (160, .iastore, 1, 0, 0, 0, _) from rfl) (Or.inr (Or.inr (Or.inr (Or.inl ⟨_, _, by rw [eI105]; exact sta_i c129 hin104, rfl⟩)))) ?_
        have hL106 : LQ sh R J b n N (130 * nv J 94 52 + mv.toInt.toNat) (nv J 94 52) mv.toInt.toNat 2 0 (gPx (tK b n) 3000 4 0 (i + 1)) (sh, I105, LQ101, R) := by rw [eI105, eIg]; exact LQ_129t hJ rfl rfl hL102 elw.symm eln e
        obtain ⟨fl107, efl107⟩ : ∃ z : Int32, I105 94 50 = z := ⟨_, rfl⟩
        have hfl107 : fl107.toInt = -1 := by rw [← efl107]; exact (hL106.2.2.2.1.2.1 e).2.1
        refine XW.fam (S' := (162, [(2, .int 1), (1, .int lv), (0, .ref 94)], [.ref 94], (sh, I105, LQ101, R))) (M := mr_281) rfl (show mcode 281 161 = some (161, .aload_n 0, 1, 0, 0, 0, _) from rfl) (Or.inl ⟨.ref 94, rfl, rfl⟩) ?_
        refine XW.fam (S' := (165, [(2, .int 1), (1, .int lv), (0, .ref 94)], [.int (I105 94 50)], (sh, I105, LQ101, R))) (M := mr_281) rfl (show mcode 281 162 = some (162, .getfield 370, 3, 12, 50, 0, _) from rfl) (Or.inr (Or.inr (Or.inr (Or.inr (Or.inr (Or.inr (Or.inr (Or.inl ⟨_, _, rfl, fl_ldI c94 (by decide) (by decide), rfl⟩)))))))) ?_
        rw [efl107]
        have k108 : bcmp .lt fl107 0 = true := bcT (c := .lt) (a := (fl107).toInt) (b := 0) rfl (by decide) (by show (fl107).toInt < 0; omega)
        refine XW.fam (S' := (169, [(2, .int 1), (1, .int lv), (0, .ref 94)], [], (sh, I105, LQ101, R))) (M := mr_281) rfl (show mcode 281 165 = some (165, .ifCond .lt 4, 3, 169, 0, 0, _) from rfl) (Or.inr (Or.inl ⟨169, [], by simp [brn, k108], rfl⟩)) ?_
        have hB109 : mBs I105 b n N := mBs_keep hL106.2.2.1 hJ
        have hq110 : QM sh R I105 b n N 0 0 0 (true, (gPx (tK b n) 3000 4 0 (i + 1)).2) (sh, I105, LQ101, R) := QM_t e ⟨hL106.1, hL106.2.1, fun _ _ _ => rfl, hL106.2.2.2.1⟩
        have ga111 := gram_allM (d := d) (sh := sh) (J := I105) (R := R) hB109 3000
        have hjN : (gPx (tK b n) 3000 4 0 (i + 1)).2 ≤ N := hL106.2.2.2.1.1.2
        refine XW.fam (S' := (170, [(2, .int 1), (1, .int lv), (0, .ref 94)], [.int 1], (sh, I105, LQ101, R))) (M := mr_281) rfl (show mcode 281 169 = some (169, .iload_n 2, 1, 0, 0, 0, _) from rfl) (Or.inl ⟨.int 1, rfl, rfl⟩) ?_
        refine XW.fam (S' := (171, [(2, .int 1), (1, .int lv), (0, .ref 94)], [.int 2, .int 1], (sh, I105, LQ101, R))) (M := mr_281) rfl (show mcode 281 170 = some (170, .iconst 2, 1, 0, 0, 0, _) from rfl) (Or.inl ⟨.int 2, rfl, rfl⟩) ?_
        refine XW.fam (S' := (181, [(2, .int 1), (1, .int lv), (0, .ref 94)], [], (sh, I105, LQ101, R))) (M := mr_281) rfl (show mcode 281 171 = some (171, .if_icmp .ne 10, 3, 181, 0, 0, _) from rfl) (Or.inr (Or.inl ⟨181, [], rfl, rfl⟩)) ?_
        refine XW.fam (S' := (182, [(2, .int 1), (1, .int lv), (0, .ref 94)], [.int 1], (sh, I105, LQ101, R))) (M := mr_281) rfl (show mcode 281 181 = some (181, .iload_n 2, 1, 0, 0, 0, _) from rfl) (Or.inl ⟨.int 1, rfl, rfl⟩) ?_
        refine XW.fam (S' := (183, [(2, .int 1), (1, .int lv), (0, .ref 94)], [.int 1, .int 1], (sh, I105, LQ101, R))) (M := mr_281) rfl (show mcode 281 182 = some (182, .iconst 1, 1, 0, 0, 0, _) from rfl) (Or.inl ⟨.int 1, rfl, rfl⟩) ?_
        refine XW.fam (S' := (204, [(2, .int 1), (1, .int lv), (0, .ref 94)], [], (sh, I105, LQ101, R))) (M := mr_281) rfl (show mcode 281 183 = some (183, .if_icmp .eq 21, 3, 204, 0, 0, _) from rfl) (Or.inr (Or.inl ⟨204, [], rfl, rfl⟩)) ?_
        refine XW.fam (S' := (205, [(2, .int 1), (1, .int lv), (0, .ref 94)], [.ref 94], (sh, I105, LQ101, R))) (M := mr_281) rfl (show mcode 281 204 = some (204, .aload_n 0, 1, 0, 0, 0, _) from rfl) (Or.inl ⟨.ref 94, rfl, rfl⟩) ?_
        refine XW.fam (S' := (208, [(2, .int 1), (1, .int lv), (0, .ref 94)], [.ref 130], (sh, I105, LQ101, R))) (M := mr_281) rfl (show mcode 281 205 = some (205, .getfield 121, 3, 12, 43, 0, _) from rfl) (Or.inr (Or.inr (Or.inr (Or.inr (Or.inr (Or.inr (Or.inr (Or.inl ⟨_, _, rfl, fl_ld c94 r94_43 (by decide) (by decide), rfl⟩)))))))) ?_
        refine XW.fam (S' := (209, [(2, .int 1), (1, .int lv), (0, .ref 94)], [.int lv, .ref 130], (sh, I105, LQ101, R))) (M := mr_281) rfl (show mcode 281 208 = some (208, .iload_n 1, 1, 0, 0, 0, _) from rfl) (Or.inl ⟨.int lv, rfl, rfl⟩) ?_
        refine XW.fam (S' := (210, [(2, .int 1), (1, .int lv), (0, .ref 94)], [.ref 94, .int lv, .ref 130], (sh, I105, LQ101, R))) (M := mr_281) rfl (show mcode 281 209 = some (209, .aload_n 0, 1, 0, 0, 0, _) from rfl) (Or.inl ⟨.ref 94, rfl, rfl⟩) ?_
        refine XW.fam (S' := (213, [(2, .int 1), (1, .int lv), (0, .ref 94)], [.int (I105 94 53), .int lv, .ref 130], (sh, I105, LQ101, R))) (M := mr_281) rfl (show mcode 281 210 = some (210, .getfield 376, 3, 12, 53, 0, _) from rfl) (Or.inr (Or.inr (Or.inr (Or.inr (Or.inr (Or.inr (Or.inr (Or.inl ⟨_, _, rfl, fl_ldI c94 (by decide) (by decide), rfl⟩)))))))) ?_
        have hin112 : inR lv 2730 = true := inR_of (by omega) (by omega)
        obtain ⟨I113, eI113⟩ : ∃ X, X = up2 I105 130 (lv).toNatClampNeg (I105 94 53) := ⟨_, rfl⟩
        refine XW.fam (S' := (214, [(2, .int 1), (1, .int lv), (0, .ref 94)], [], (sh, I113, LQ101, R))) (M := mr_281) rfl (show mcode 281 213 = some (213, .iastore, 1, 0, 0, 0, _) from rfl) (Or.inr (Or.inr (Or.inr (Or.inl ⟨_, _, by rw [eI113]; exact sta_i c130 hin112, rfl⟩)))) ?_
        have hL114 : LQ sh R J b n N (130 * nv J 94 52 + mv.toInt.toNat) (nv J 94 52) mv.toInt.toNat 3 0 (true, (gPx (tK b n) 3000 4 0 (i + 1)).2) (sh, I113, LQ101, R) := by rw [eI113]; exact LQ_130 hJ rfl rfl (LQ_t e hL106) rfl eln
        have k52 : I113 94 52 = ro := (hL114.2.2.1 94 52 rfl).trans ((hkR 94 52 rfl).symm.trans ero)
        obtain ⟨m2, em2⟩ : ∃ z : Int32, I113 125 (ro).toNatClampNeg = z := ⟨_, rfl⟩
        have hm2 : m2.toInt = mv.toInt := by have z : (I113 125 (nv J 94 52)).toInt = (mv.toInt.toNat : Int) := hL114.2.2.2.2.1; rw [← em2, ern, z]; omega
        have xi := inc32 (m := m2) (by omega) (by omega)
        refine XW.fam (S' := (215, [(2, .int 1), (1, .int lv), (0, .ref 94)], [.ref 94], (sh, I113, LQ101, R))) (M := mr_281) rfl (show mcode 281 214 = some (214, .aload_n 0, 1, 0, 0, 0, _) from rfl) (Or.inl ⟨.ref 94, rfl, rfl⟩) ?_
        refine XW.fam (S' := (218, [(2, .int 1), (1, .int lv), (0, .ref 94)], [.ref 125], (sh, I113, LQ101, R))) (M := mr_281) rfl (show mcode 281 215 = some (215, .getfield 106, 3, 12, 38, 0, _) from rfl) (Or.inr (Or.inr (Or.inr (Or.inr (Or.inr (Or.inr (Or.inr (Or.inl ⟨_, _, rfl, fl_ld c94 r94_38 (by decide) (by decide), rfl⟩)))))))) ?_
        refine XW.fam (S' := (219, [(2, .int 1), (1, .int lv), (0, .ref 94)], [.ref 94, .ref 125], (sh, I113, LQ101, R))) (M := mr_281) rfl (show mcode 281 218 = some (218, .aload_n 0, 1, 0, 0, 0, _) from rfl) (Or.inl ⟨.ref 94, rfl, rfl⟩) ?_
        refine XW.fam (S' := (222, [(2, .int 1), (1, .int lv), (0, .ref 94)], [.int (I113 94 52), .ref 125], (sh, I113, LQ101, R))) (M := mr_281) rfl (show mcode 281 219 = some (219, .getfield 373, 3, 12, 52, 0, _) from rfl) (Or.inr (Or.inr (Or.inr (Or.inr (Or.inr (Or.inr (Or.inr (Or.inl ⟨_, _, rfl, fl_ldI c94 (by decide) (by decide), rfl⟩)))))))) ?_
        rw [k52]
        refine XW.fam (S' := (223, [(2, .int 1), (1, .int lv), (0, .ref 94)], [.int ro, .ref 125, .int ro, .ref 125], (sh, I113, LQ101, R))) (M := mr_281) rfl (show mcode 281 222 = some (222, .dup2, 1, 0, 0, 0, _) from rfl) (Or.inr (Or.inr (Or.inr (Or.inr (Or.inr (Or.inl ⟨_, rfl, rfl⟩)))))) ?_
        have hin115 : inR ro 21 = true := inR_of (by omega) (by omega)
        refine XW.fam (S' := (224, [(2, .int 1), (1, .int lv), (0, .ref 94)], [.int (I113 125 (ro).toNatClampNeg), .int ro, .ref 125], (sh, I113, LQ101, R))) (M := mr_281) rfl (show mcode 281 223 = some (223, .iaload, 1, 0, 0, 0, _) from rfl) (Or.inr (Or.inr (Or.inl ⟨_, lda_i c125 hin115, rfl⟩))) ?_
        rw [em2]
        refine XW.fam (S' := (225, [(2, .int 1), (1, .int lv), (0, .ref 94)], [.int 1, .int m2, .int ro, .ref 125], (sh, I113, LQ101, R))) (M := mr_281) rfl (show mcode 281 224 = some (224, .iconst 1, 1, 0, 0, 0, _) from rfl) (Or.inl ⟨.int 1, rfl, rfl⟩) ?_
        refine XW.fam (S' := (226, [(2, .int 1), (1, .int lv), (0, .ref 94)], [.int (m2 + 1), .int ro, .ref 125], (sh, I113, LQ101, R))) (M := mr_281) rfl (show mcode 281 225 = some (225, .iadd, 1, 0, 0, 0, _) from rfl) (Or.inr (Or.inr (Or.inr (Or.inr (Or.inr (Or.inl ⟨_, rfl, rfl⟩)))))) ?_
        have hin116 : inR ro 21 = true := inR_of (by omega) (by omega)
        obtain ⟨I117, eI117⟩ : ∃ X, X = up2 I113 125 (ro).toNatClampNeg (m2 + 1) := ⟨_, rfl⟩
        refine XW.fam (S' := (227, [(2, .int 1), (1, .int lv), (0, .ref 94)], [], (sh, I117, LQ101, R))) (M := mr_281) rfl (show mcode 281 226 = some (226, .iastore, 1, 0, 0, 0, _) from rfl) (Or.inr (Or.inr (Or.inr (Or.inl ⟨_, _, by rw [eI117]; exact sta_i c125 hin116, rfl⟩)))) ?_
        have hQ119 : QL sh R J b n N 1 (true, (gPx (tK b n) 3000 4 0 (i + 1)).2) (sh, I117, LQ101, R) := by rw [eI117]; exact LQ_125 hJ rfl rfl hL114 (by omega) (by omega) ern (by have z := hgo1; show 2 * ((mv.toInt.toNat : Int) + 1) ≤ (((gPx (tK b n) 3000 4 0 (i + 1)).2 : Nat) : Int) + 1; omega)
        refine XW.ret (r := none) ⟨rfl, by decide +kernel⟩ ?_
        have eL : gLn (tK b n) 3000 i = (true, (gPx (tK b n) 3000 4 0 (i + 1)).2) := by
          unfold gLn
          rw [if_neg (by omega), if_neg (by omega), if_neg (by omega)]
          rw [gB_t e]
          exact if_neg (by omega)
        rw [eL]
        exact ⟨rfl, hQ119⟩
      | false =>
        refine XW.fam (S' := (152, [(2, .int 1), (1, .int lv), (0, .ref 94)], [.ref 94], (sh, IQ101, LQ101, R))) (M := mr_281) rfl (show mcode 281 151 = some (151, .aload_n 0, 1, 0, 0, 0, _) from rfl) (Or.inl ⟨.ref 94, rfl, rfl⟩) ?_
        refine XW.fam (S' := (155, [(2, .int 1), (1, .int lv), (0, .ref 94)], [.ref 129], (sh, IQ101, LQ101, R))) (M := mr_281) rfl (show mcode 281 152 = some (152, .getfield 118, 3, 12, 42, 0, _) from rfl) (Or.inr (Or.inr (Or.inr (Or.inr (Or.inr (Or.inr (Or.inr (Or.inl ⟨_, _, rfl, fl_ld c94 r94_42 (by decide) (by decide), rfl⟩)))))))) ?_
        refine XW.fam (S' := (156, [(2, .int 1), (1, .int lv), (0, .ref 94)], [.int lv, .ref 129], (sh, IQ101, LQ101, R))) (M := mr_281) rfl (show mcode 281 155 = some (155, .iload_n 1, 1, 0, 0, 0, _) from rfl) (Or.inl ⟨.int lv, rfl, rfl⟩) ?_
        refine XW.fam (S' := (157, [(2, .int 1), (1, .int lv), (0, .ref 94)], [.ref 94, .int lv, .ref 129], (sh, IQ101, LQ101, R))) (M := mr_281) rfl (show mcode 281 156 = some (156, .aload_n 0, 1, 0, 0, 0, _) from rfl) (Or.inl ⟨.ref 94, rfl, rfl⟩) ?_
        refine XW.fam (S' := (160, [(2, .int 1), (1, .int lv), (0, .ref 94)], [.int (IQ101 94 53), .int lv, .ref 129], (sh, IQ101, LQ101, R))) (M := mr_281) rfl (show mcode 281 157 = some (157, .getfield 376, 3, 12, 53, 0, _) from rfl) (Or.inr (Or.inr (Or.inr (Or.inr (Or.inr (Or.inr (Or.inr (Or.inl ⟨_, _, rfl, fl_ldI c94 (by decide) (by decide), rfl⟩)))))))) ?_
        have hin120 : inR lv 2730 = true := inR_of (by omega) (by omega)
        obtain ⟨I121, eI121⟩ : ∃ X, X = up2 IQ101 129 (lv).toNatClampNeg (IQ101 94 53) := ⟨_, rfl⟩
        refine XW.fam (S' := (161, [(2, .int 1), (1, .int lv), (0, .ref 94)], [], (sh, I121, LQ101, R))) (M := mr_281) rfl (show mcode 281 160 = some (160, .iastore, 1, 0, 0, 0, _) from rfl) (Or.inr (Or.inr (Or.inr (Or.inl ⟨_, _, by rw [eI121]; exact sta_i c129 hin120, rfl⟩)))) ?_
        have hL122 : LQ sh R J b n N (130 * nv J 94 52 + mv.toInt.toNat) (nv J 94 52) mv.toInt.toNat 2 (0 + 1) (gPx (tK b n) 3000 4 0 (i + 1)) (sh, I121, LQ101, R) := by rw [eI121]; exact LQ_129f hJ rfl rfl hL102 rfl eln e
        obtain ⟨fl123, efl123⟩ : ∃ z : Int32, I121 94 50 = z := ⟨_, rfl⟩
        have hfl123 : fl123.toInt = (tS b n (gPx (tK b n) 3000 4 0 (i + 1)).2 : Int) := by rw [← efl123]; exact (hL122.2.2.2.1.2.2 e).1
        refine XW.fam (S' := (162, [(2, .int 1), (1, .int lv), (0, .ref 94)], [.ref 94], (sh, I121, LQ101, R))) (M := mr_281) rfl (show mcode 281 161 = some (161, .aload_n 0, 1, 0, 0, 0, _) from rfl) (Or.inl ⟨.ref 94, rfl, rfl⟩) ?_
        refine XW.fam (S' := (165, [(2, .int 1), (1, .int lv), (0, .ref 94)], [.int (I121 94 50)], (sh, I121, LQ101, R))) (M := mr_281) rfl (show mcode 281 162 = some (162, .getfield 370, 3, 12, 50, 0, _) from rfl) (Or.inr (Or.inr (Or.inr (Or.inr (Or.inr (Or.inr (Or.inr (Or.inl ⟨_, _, rfl, fl_ldI c94 (by decide) (by decide), rfl⟩)))))))) ?_
        rw [efl123]
        have k124 : bcmp .lt fl123 0 = false := bcF (c := .lt) (a := (fl123).toInt) (b := 0) rfl (by decide) (by show ¬ ((fl123).toInt < 0); omega)
        refine XW.fam (S' := (168, [(2, .int 1), (1, .int lv), (0, .ref 94)], [], (sh, I121, LQ101, R))) (M := mr_281) rfl (show mcode 281 165 = some (165, .ifCond .lt 4, 3, 169, 0, 0, _) from rfl) (Or.inr (Or.inl ⟨168, [], by simp [brn, k124], rfl⟩)) ?_
        refine XW.ret (r := none) ⟨rfl, by decide +kernel⟩ ?_
        have eL : gLn (tK b n) 3000 i = (gPx (tK b n) 3000 4 0 (i + 1)) := by
          unfold gLn
          rw [if_neg (by omega), if_neg (by omega), if_neg (by omega)]
          exact gB_f e
        rw [eL]
        exact ⟨rfl, QL_f hL122 e⟩
  · skip
    refine XW.fam (S' := (29, [(1, .int lv), (0, .ref 94)], [], (sh, I, L, R))) (M := mr_281) rfl (show mcode 281 26 = some (26, .ifCond .eq 7, 3, 33, 0, 0, _) from rfl) (Or.inr (Or.inl ⟨29, [], rfl, rfl⟩)) ?_
    refine XW.fam (S' := (30, [(1, .int lv), (0, .ref 94)], [.int 0], (sh, I, L, R))) (M := mr_281) rfl (show mcode 281 29 = some (29, .iconst 0, 1, 0, 0, 0, _) from rfl) (Or.inl ⟨.int 0, rfl, rfl⟩) ?_
    refine XW.fam (S' := (76, [(1, .int lv), (0, .ref 94)], [.int 0], (sh, I, L, R))) (M := mr_281) rfl (show mcode 281 30 = some (30, .goto 46, 3, 76, 0, 0, _) from rfl) (Or.inr (Or.inl ⟨76, [.int 0], rfl, rfl⟩)) ?_
    refine XW.fam (S' := (77, [(2, .int 0), (1, .int lv), (0, .ref 94)], [], (sh, I, L, R))) (M := mr_281) rfl (show mcode 281 76 = some (76, .istore_n 2, 1, 0, 0, 0, _) from rfl) (Or.inr (Or.inr (Or.inr (Or.inr (Or.inr (Or.inr (Or.inl ⟨_, [], _, rfl, rfl, rfl⟩))))))) ?_
    refine XW.fam (S' := (78, [(2, .int 0), (1, .int lv), (0, .ref 94)], [.int 0], (sh, I, L, R))) (M := mr_281) rfl (show mcode 281 77 = some (77, .iload_n 2, 1, 0, 0, 0, _) from rfl) (Or.inl ⟨.int 0, rfl, rfl⟩) ?_
    refine XW.fam (S' := (86, [(2, .int 0), (1, .int lv), (0, .ref 94)], [], (sh, I, L, R))) (M := mr_281) rfl (show mcode 281 78 = some (78, .ifCond .ge 8, 3, 86, 0, 0, _) from rfl) (Or.inr (Or.inl ⟨86, [], rfl, rfl⟩)) ?_
    refine XW.fam (S' := (87, [(2, .int 0), (1, .int lv), (0, .ref 94)], [.ref 94], (sh, I, L, R))) (M := mr_281) rfl (show mcode 281 86 = some (86, .aload_n 0, 1, 0, 0, 0, _) from rfl) (Or.inl ⟨.ref 94, rfl, rfl⟩) ?_
    refine XW.call (d' := d + 2) (mc' := 0) (ms' := 0) (av := [.ref 94]) (rest := []) (M := mr_281) (Ma := mr_278) rfl (show mcode 281 87 = some (87, .invokevirtual 385, 3, 278, 0, 0, _) from rfl) rfl (by decide) (by decide) ⟨rfl, 94, _, rfl, c94⟩ rfl rfl (show 0 ≤ 8 by decide) (tc_nxtM (d := d) (c2 := 1) hB hq (lt_N hN hle (by omega)) rfl) (by omega) (Nat.zero_le _) (Nat.zero_le _) (fun rQ125 wQ125 Q125 => ?_)
    obtain ⟨hrQ125, hqQ125⟩ := Q125
    subst hrQ125
    obtain ⟨shQ125, IQ125, LQ125, RQ125⟩ := wQ125
    obtain rfl : sh = shQ125 := hqQ125.2.1.2.2.2.1.symm
    obtain rfl : R = RQ125 := hqQ125.2.1.2.2.2.2.1.symm
    have hle1 : i + 1 ≤ N := lt_N hN hle (by omega)
    have hl53 : ∀ z : Int32, z = IQ125 94 53 → z.toInt ≤ 239 := by
      intro z ez
      rw [ez]
      have z1 : (IQ125 94 53).toInt + 1 ≤ ((i + 1 : Nat) : Int) := hqQ125.2.2.2.1.1
      omega
    have hL126 : LQ sh R J b n N (130 * nv J 94 52 + mv.toInt.toNat) (nv J 94 52) mv.toInt.toNat 0 h (true, i + 1) (sh, IQ125, LQ125, R) := LQ_of hL0 rfl (by decide) hqQ125 (by decide)
    refine XW.fam (S' := (91, [(2, .int 0), (1, .int lv), (0, .ref 94)], [.ref 94], (sh, IQ125, LQ125, R))) (M := mr_281) rfl (show mcode 281 90 = some (90, .aload_n 0, 1, 0, 0, 0, _) from rfl) (Or.inl ⟨.ref 94, rfl, rfl⟩) ?_
    refine XW.fam (S' := (94, [(2, .int 0), (1, .int lv), (0, .ref 94)], [.ref 126], (sh, IQ125, LQ125, R))) (M := mr_281) rfl (show mcode 281 91 = some (91, .getfield 109, 3, 12, 39, 0, _) from rfl) (Or.inr (Or.inr (Or.inr (Or.inr (Or.inr (Or.inr (Or.inr (Or.inl ⟨_, _, rfl, fl_ld c94 r94_39 (by decide) (by decide), rfl⟩)))))))) ?_
    refine XW.fam (S' := (95, [(2, .int 0), (1, .int lv), (0, .ref 94)], [.int lv, .ref 126], (sh, IQ125, LQ125, R))) (M := mr_281) rfl (show mcode 281 94 = some (94, .iload_n 1, 1, 0, 0, 0, _) from rfl) (Or.inl ⟨.int lv, rfl, rfl⟩) ?_
    refine XW.fam (S' := (96, [(2, .int 0), (1, .int lv), (0, .ref 94)], [.int 0, .int lv, .ref 126], (sh, IQ125, LQ125, R))) (M := mr_281) rfl (show mcode 281 95 = some (95, .iload_n 2, 1, 0, 0, 0, _) from rfl) (Or.inl ⟨.int 0, rfl, rfl⟩) ?_
    have hin127 : inR lv 2730 = true := inR_of (by omega) (by omega)
    obtain ⟨I128, eI128⟩ : ∃ X, X = up2 IQ125 126 (lv).toNatClampNeg 0 := ⟨_, rfl⟩
    refine XW.fam (S' := (97, [(2, .int 0), (1, .int lv), (0, .ref 94)], [], (sh, I128, LQ125, R))) (M := mr_281) rfl (show mcode 281 96 = some (96, .iastore, 1, 0, 0, 0, _) from rfl) (Or.inr (Or.inr (Or.inr (Or.inl ⟨_, _, by rw [eI128]; exact sta_i c126 hin127, rfl⟩)))) ?_
    have xbI128 := i32b (0 : Int32)
    unfold lo32 hi32 at xbI128
    have hwI128 : wOK (mkT vV []) (wE sh R) (sh, I128, LQ125, R) := by rw [eI128]; exact wOK_u2 (q := 126) (k := (lv).toNatClampNeg) (x := 0) wE_put hL126.2.1 rfl (by show (0 : Int) ≤ _; omega) (by show _ ≤ (3 : Int); omega)
    have hfI128 : fresh (sh, I128, LQ125, R) := by rw [eI128]; exact fresh_I hL126.1 c126
    have hL129 : LQ sh R J b n N (130 * nv J 94 52 + mv.toInt.toNat) (nv J 94 52) mv.toInt.toNat 0 h (true, i + 1) (sh, I128, LQ125, R) := by rw [eI128] at hwI128 hfI128 ⊢; exact LQ_free hL126 (by decide) hwI128 hfI128
    obtain ⟨lw, elw⟩ : ∃ z : Int32, I128 94 53 = z := ⟨_, rfl⟩
    refine XW.gh (q := 94) (g := 202) (x := lw) c94 (by decide +kernel) ?_
    refine XW.gh (q := 94) (g := 203) (x := lw) c94 (by decide +kernel) ?_
    refine XW.gh (q := 94) (g := 200) (x := 0) c94 (by decide +kernel) ?_
    obtain ⟨Ig130, eIg⟩ : ∃ X, X = up2 (up2 (up2 I128 94 202 lw) 94 203 lw) 94 200 0 := ⟨_, rfl⟩
    rw [← eIg]
    have vlw : Ig130 94 53 = lw := by rw [eIg, up2_ne (by decide), up2_ne (by decide), up2_ne (by decide)]; exact elw
    have hlw : lw.toInt ≤ 239 := hl53 lw (by rw [← elw, eI128, up2_ne (fun e => by cases e.1)])
    refine XW.fam (S' := (98, [(2, .int 0), (1, .int lv), (0, .ref 94)], [.ref 94], (sh, Ig130, LQ125, R))) (M := mr_281) rfl (show mcode 281 97 = some (97, .aload_n 0, 1, 0, 0, 0, _) from rfl) (Or.inl ⟨.ref 94, rfl, rfl⟩) ?_
    refine XW.fam (S' := (101, [(2, .int 0), (1, .int lv), (0, .ref 94)], [.ref 128], (sh, Ig130, LQ125, R))) (M := mr_281) rfl (show mcode 281 98 = some (98, .getfield 115, 3, 12, 41, 0, _) from rfl) (Or.inr (Or.inr (Or.inr (Or.inr (Or.inr (Or.inr (Or.inr (Or.inl ⟨_, _, rfl, fl_ld c94 r94_41 (by decide) (by decide), rfl⟩)))))))) ?_
    refine XW.fam (S' := (102, [(2, .int 0), (1, .int lv), (0, .ref 94)], [.int lv, .ref 128], (sh, Ig130, LQ125, R))) (M := mr_281) rfl (show mcode 281 101 = some (101, .iload_n 1, 1, 0, 0, 0, _) from rfl) (Or.inl ⟨.int lv, rfl, rfl⟩) ?_
    refine XW.fam (S' := (103, [(2, .int 0), (1, .int lv), (0, .ref 94)], [.ref 94, .int lv, .ref 128], (sh, Ig130, LQ125, R))) (M := mr_281) rfl (show mcode 281 102 = some (102, .aload_n 0, 1, 0, 0, 0, _) from rfl) (Or.inl ⟨.ref 94, rfl, rfl⟩) ?_
    refine XW.fam (S' := (106, [(2, .int 0), (1, .int lv), (0, .ref 94)], [.int (Ig130 94 53), .int lv, .ref 128], (sh, Ig130, LQ125, R))) (M := mr_281) rfl (show mcode 281 103 = some (103, .getfield 376, 3, 12, 53, 0, _) from rfl) (Or.inr (Or.inr (Or.inr (Or.inr (Or.inr (Or.inr (Or.inr (Or.inl ⟨_, _, rfl, fl_ldI c94 (by decide) (by decide), rfl⟩)))))))) ?_
    rw [vlw]
    have hin131 : inR lv 2730 = true := inR_of (by omega) (by omega)
    obtain ⟨I132, eI132⟩ : ∃ X, X = up2 Ig130 128 (lv).toNatClampNeg lw := ⟨_, rfl⟩
    refine XW.fam (S' := (107, [(2, .int 0), (1, .int lv), (0, .ref 94)], [], (sh, I132, LQ125, R))) (M := mr_281) rfl (show mcode 281 106 = some (106, .iastore, 1, 0, 0, 0, _) from rfl) (Or.inr (Or.inr (Or.inr (Or.inl ⟨_, _, by rw [eI132]; exact sta_i c128 hin131, rfl⟩)))) ?_
    have hL133 : LQ sh R J b n N (130 * nv J 94 52 + mv.toInt.toNat) (nv J 94 52) mv.toInt.toNat 1 0 (true, i + 1) (sh, I132, LQ125, R) := by rw [eI132, eIg]; exact LQ_128 hJ rfl rfl hL129 elw.symm (by omega) eln
    have hB134 : mBs I132 b n N := mBs_keep hL133.2.2.1 hJ
    have hq135 : QM sh R I132 b n N 0 0 0 (true, i + 1) (sh, I132, LQ125, R) := ⟨hL133.1, hL133.2.1, fun _ _ _ => rfl, hL133.2.2.2.1⟩
    have ga136 := gram_allM (d := d) (sh := sh) (J := I132) (R := R) hB134 3000
    refine XW.fam (S' := (108, [(2, .int 0), (1, .int lv), (0, .ref 94)], [.int 0], (sh, I132, LQ125, R))) (M := mr_281) rfl (show mcode 281 107 = some (107, .iload_n 2, 1, 0, 0, 0, _) from rfl) (Or.inl ⟨.int 0, rfl, rfl⟩) ?_
    refine XW.fam (S' := (109, [(2, .int 0), (1, .int lv), (0, .ref 94)], [.int 3, .int 0], (sh, I132, LQ125, R))) (M := mr_281) rfl (show mcode 281 108 = some (108, .iconst 3, 1, 0, 0, 0, _) from rfl) (Or.inl ⟨.int 3, rfl, rfl⟩) ?_
    refine XW.fam (S' := (142, [(2, .int 0), (1, .int lv), (0, .ref 94)], [], (sh, I132, LQ125, R))) (M := mr_281) rfl (show mcode 281 109 = some (109, .if_icmp .ne 33, 3, 142, 0, 0, _) from rfl) (Or.inr (Or.inl ⟨142, [], rfl, rfl⟩)) ?_
    refine XW.fam (S' := (143, [(2, .int 0), (1, .int lv), (0, .ref 94)], [.int 0], (sh, I132, LQ125, R))) (M := mr_281) rfl (show mcode 281 142 = some (142, .iload_n 2, 1, 0, 0, 0, _) from rfl) (Or.inl ⟨.int 0, rfl, rfl⟩) ?_
    refine XW.fam (S' := (144, [(2, .int 0), (1, .int lv), (0, .ref 94)], [.int 2, .int 0], (sh, I132, LQ125, R))) (M := mr_281) rfl (show mcode 281 143 = some (143, .iconst 2, 1, 0, 0, 0, _) from rfl) (Or.inl ⟨.int 2, rfl, rfl⟩) ?_
    refine XW.fam (S' := (147, [(2, .int 0), (1, .int lv), (0, .ref 94)], [], (sh, I132, LQ125, R))) (M := mr_281) rfl (show mcode 281 144 = some (144, .if_icmp .eq 7, 3, 151, 0, 0, _) from rfl) (Or.inr (Or.inl ⟨147, [], rfl, rfl⟩)) ?_
    refine XW.fam (S' := (148, [(2, .int 0), (1, .int lv), (0, .ref 94)], [.ref 94], (sh, I132, LQ125, R))) (M := mr_281) rfl (show mcode 281 147 = some (147, .aload_n 0, 1, 0, 0, 0, _) from rfl) (Or.inl ⟨.ref 94, rfl, rfl⟩) ?_
    refine XW.call (d' := (d + 4 + (6 * (8 - 0) + 3))) (mc' := 0) (ms' := 0) (av := [.ref 94]) (rest := []) (M := mr_281) (Ma := mr_284) rfl (show mcode 281 148 = some (148, .invokevirtual 403, 3, 284, 0, 0, _) from rfl) rfl (by decide) (by decide) ⟨rfl, 94, _, rfl, c94⟩ rfl rfl (show 0 ≤ 8 by decide) (ga136.2.2.1 0 (i + 1) 0 0 (by omega) (QM_wk hq135 (by omega)) (by omega) (by omega) (by omega)) (by omega) (Nat.zero_le _) (Nat.zero_le _) (fun rQ137 wQ137 Q137 => ?_)
    obtain ⟨hrQ137, hqQ137⟩ := Q137
    subst hrQ137
    obtain ⟨shQ137, IQ137, LQ137, RQ137⟩ := wQ137
    obtain rfl : sh = shQ137 := hqQ137.2.1.2.2.2.1.symm
    obtain rfl : R = RQ137 := hqQ137.2.1.2.2.2.2.1.symm
    have hL138 : LQ sh R J b n N (130 * nv J 94 52 + mv.toInt.toNat) (nv J 94 52) mv.toInt.toNat 1 (0 + 1) (gPx (tK b n) 3000 4 0 (i + 1)) (sh, IQ137, LQ137, R) := LQ_of hL133 rfl (by decide) hqQ137 (Int.le_refl _)
    have hgo := (gPx_ok hN 3000 0 (i + 1) hle1).1 4 (by omega)
    have hgo1 := hgo.1
    have hgo2 := hgo.2.1
    cases e : (gPx (tK b n) 3000 4 0 (i + 1)).1 with
    | true =>
      obtain ⟨lw, elw⟩ : ∃ z : Int32, IQ137 94 53 = z := ⟨_, rfl⟩
      refine XW.gh (q := 94) (g := 203) (x := lw) c94 (by decide +kernel) ?_
      refine XW.gh (q := 94) (g := 200) (x := 0) c94 (by decide +kernel) ?_
      obtain ⟨Ig139, eIg⟩ : ∃ X, X = up2 (up2 IQ137 94 203 lw) 94 200 0 := ⟨_, rfl⟩
      rw [← eIg]
      have vlw : Ig139 94 53 = lw := by rw [eIg, up2_ne (by decide), up2_ne (by decide)]; exact elw
      have hlw : 0 ≤ lw.toInt ∧ lw.toInt ≤ 241 := by rw [← elw]; exact hL138.2.1.2.2.1 94 53
      refine XW.fam (S' := (152, [(2, .int 0), (1, .int lv), (0, .ref 94)], [.ref 94], (sh, Ig139, LQ137, R))) (M := mr_281) rfl (show mcode 281 151 = some (151, .aload_n 0, 1, 0, 0, 0, _) from rfl) (Or.inl ⟨.ref 94, rfl, rfl⟩) ?_
      refine XW.fam (S' := (155, [(2, .int 0), (1, .int lv), (0, .ref 94)], [.ref 129], (sh, Ig139, LQ137, R))) (M := mr_281) rfl (show mcode 281 152 = some (152, .getfield 118, 3, 12, 42, 0, _) from rfl) (Or.inr (Or.inr (Or.inr (Or.inr (Or.inr (Or.inr (Or.inr (Or.inl ⟨_, _, rfl, fl_ld c94 r94_42 (by decide) (by decide), rfl⟩)))))))) ?_
      refine XW.fam (S' := (156, [(2, .int 0), (1, .int lv), (0, .ref 94)], [.int lv, .ref 129], (sh, Ig139, LQ137, R))) (M := mr_281) rfl (show mcode 281 155 = some (155, .iload_n 1, 1, 0, 0, 0, _) from rfl) (Or.inl ⟨.int lv, rfl, rfl⟩) ?_
      refine XW.fam (S' := (157, [(2, .int 0), (1, .int lv), (0, .ref 94)], [.ref 94, .int lv, .ref 129], (sh, Ig139, LQ137, R))) (M := mr_281) rfl (show mcode 281 156 = some (156, .aload_n 0, 1, 0, 0, 0, _) from rfl) (Or.inl ⟨.ref 94, rfl, rfl⟩) ?_
      refine XW.fam (S' := (160, [(2, .int 0), (1, .int lv), (0, .ref 94)], [.int (Ig139 94 53), .int lv, .ref 129], (sh, Ig139, LQ137, R))) (M := mr_281) rfl (show mcode 281 157 = some (157, .getfield 376, 3, 12, 53, 0, _) from rfl) (Or.inr (Or.inr (Or.inr (Or.inr (Or.inr (Or.inr (Or.inr (Or.inl ⟨_, _, rfl, fl_ldI c94 (by decide) (by decide), rfl⟩)))))))) ?_
      rw [vlw]
      have hin140 : inR lv 2730 = true := inR_of (by omega) (by omega)
      obtain ⟨I141, eI141⟩ : ∃ X, X = up2 Ig139 129 (lv).toNatClampNeg lw := ⟨_, rfl⟩
      refine XW.fam (S' := (161, [(2, .int 0), (1, .int lv), (0, .ref 94)], [], (sh, I141, LQ137, R))) (M := mr_281) rfl (show mcode 281 160 = some (160, .iastore, 1, 0, 0, 0, _) from rfl) (Or.inr (Or.inr (Or.inr (Or.inl ⟨_, _, by rw [eI141]; exact sta_i c129 hin140, rfl⟩)))) ?_
      have hL142 : LQ sh R J b n N (130 * nv J 94 52 + mv.toInt.toNat) (nv J 94 52) mv.toInt.toNat 2 0 (gPx (tK b n) 3000 4 0 (i + 1)) (sh, I141, LQ137, R) := by rw [eI141, eIg]; exact LQ_129t hJ rfl rfl hL138 elw.symm eln e
      obtain ⟨fl143, efl143⟩ : ∃ z : Int32, I141 94 50 = z := ⟨_, rfl⟩
      have hfl143 : fl143.toInt = -1 := by rw [← efl143]; exact (hL142.2.2.2.1.2.1 e).2.1
      refine XW.fam (S' := (162, [(2, .int 0), (1, .int lv), (0, .ref 94)], [.ref 94], (sh, I141, LQ137, R))) (M := mr_281) rfl (show mcode 281 161 = some (161, .aload_n 0, 1, 0, 0, 0, _) from rfl) (Or.inl ⟨.ref 94, rfl, rfl⟩) ?_
      refine XW.fam (S' := (165, [(2, .int 0), (1, .int lv), (0, .ref 94)], [.int (I141 94 50)], (sh, I141, LQ137, R))) (M := mr_281) rfl (show mcode 281 162 = some (162, .getfield 370, 3, 12, 50, 0, _) from rfl) (Or.inr (Or.inr (Or.inr (Or.inr (Or.inr (Or.inr (Or.inr (Or.inl ⟨_, _, rfl, fl_ldI c94 (by decide) (by decide), rfl⟩)))))))) ?_
      rw [efl143]
      have k144 : bcmp .lt fl143 0 = true := bcT (c := .lt) (a := (fl143).toInt) (b := 0) rfl (by decide) (by show (fl143).toInt < 0; omega)
      refine XW.fam (S' := (169, [(2, .int 0), (1, .int lv), (0, .ref 94)], [], (sh, I141, LQ137, R))) (M := mr_281) rfl (show mcode 281 165 = some (165, .ifCond .lt 4, 3, 169, 0, 0, _) from rfl) (Or.inr (Or.inl ⟨169, [], by simp [brn, k144], rfl⟩)) ?_
      have hB145 : mBs I141 b n N := mBs_keep hL142.2.2.1 hJ
      have hq146 : QM sh R I141 b n N 0 0 0 (true, (gPx (tK b n) 3000 4 0 (i + 1)).2) (sh, I141, LQ137, R) := QM_t e ⟨hL142.1, hL142.2.1, fun _ _ _ => rfl, hL142.2.2.2.1⟩
      have ga147 := gram_allM (d := d) (sh := sh) (J := I141) (R := R) hB145 3000
      have hjN : (gPx (tK b n) 3000 4 0 (i + 1)).2 ≤ N := hL142.2.2.2.1.1.2
      refine XW.fam (S' := (170, [(2, .int 0), (1, .int lv), (0, .ref 94)], [.int 0], (sh, I141, LQ137, R))) (M := mr_281) rfl (show mcode 281 169 = some (169, .iload_n 2, 1, 0, 0, 0, _) from rfl) (Or.inl ⟨.int 0, rfl, rfl⟩) ?_
      refine XW.fam (S' := (171, [(2, .int 0), (1, .int lv), (0, .ref 94)], [.int 2, .int 0], (sh, I141, LQ137, R))) (M := mr_281) rfl (show mcode 281 170 = some (170, .iconst 2, 1, 0, 0, 0, _) from rfl) (Or.inl ⟨.int 2, rfl, rfl⟩) ?_
      refine XW.fam (S' := (181, [(2, .int 0), (1, .int lv), (0, .ref 94)], [], (sh, I141, LQ137, R))) (M := mr_281) rfl (show mcode 281 171 = some (171, .if_icmp .ne 10, 3, 181, 0, 0, _) from rfl) (Or.inr (Or.inl ⟨181, [], rfl, rfl⟩)) ?_
      refine XW.fam (S' := (182, [(2, .int 0), (1, .int lv), (0, .ref 94)], [.int 0], (sh, I141, LQ137, R))) (M := mr_281) rfl (show mcode 281 181 = some (181, .iload_n 2, 1, 0, 0, 0, _) from rfl) (Or.inl ⟨.int 0, rfl, rfl⟩) ?_
      refine XW.fam (S' := (183, [(2, .int 0), (1, .int lv), (0, .ref 94)], [.int 1, .int 0], (sh, I141, LQ137, R))) (M := mr_281) rfl (show mcode 281 182 = some (182, .iconst 1, 1, 0, 0, 0, _) from rfl) (Or.inl ⟨.int 1, rfl, rfl⟩) ?_
      refine XW.fam (S' := (186, [(2, .int 0), (1, .int lv), (0, .ref 94)], [], (sh, I141, LQ137, R))) (M := mr_281) rfl (show mcode 281 183 = some (183, .if_icmp .eq 21, 3, 204, 0, 0, _) from rfl) (Or.inr (Or.inl ⟨186, [], rfl, rfl⟩)) ?_
      refine XW.fam (S' := (187, [(2, .int 0), (1, .int lv), (0, .ref 94)], [.ref 94], (sh, I141, LQ137, R))) (M := mr_281) rfl (show mcode 281 186 = some (186, .aload_n 0, 1, 0, 0, 0, _) from rfl) (Or.inl ⟨.ref 94, rfl, rfl⟩) ?_
      refine XW.fam (S' := (190, [(2, .int 0), (1, .int lv), (0, .ref 94)], [.long 249, .ref 94], (sh, I141, LQ137, R))) (M := mr_281) rfl (show mcode 281 187 = some (187, .ldc2_w 442, 3, 0, 0, 249, _) from rfl) (Or.inr (Or.inr (Or.inr (Or.inr (Or.inl ⟨.long 249, rfl, rfl⟩))))) ?_
      refine XW.call (d' := d) (mc' := 0) (ms' := 0) (av := [.ref 94, .long 249]) (rest := []) (M := mr_281) (Ma := mr_282) rfl (show mcode 281 190 = some (190, .invokevirtual 391, 3, 282, 0, 0, _) from rfl) rfl (by decide) (by decide) ⟨rfl, 94, _, rfl, c94⟩ rfl rfl (show 0 ≤ 8 by decide) (tc_isM (d := d) (t := 4) hB145 hq146 (by decide) (by decide)) (by omega) (Nat.zero_le _) (Nat.zero_le _) (fun rQ148 wQ148 Q148 => ?_)
      obtain ⟨hQ148, hwQ148⟩ := Q148
      subst hwQ148
      rcases hQ148 with ⟨rfl, gQ148⟩ | ⟨rfl, gQ148⟩
      · skip
        refine XW.fam (S' := (204, [(2, .int 0), (1, .int lv), (0, .ref 94)], [], (sh, I141, LQ137, R))) (M := mr_281) rfl (show mcode 281 193 = some (193, .ifCond .eq 11, 3, 204, 0, 0, _) from rfl) (Or.inr (Or.inl ⟨204, [], rfl, rfl⟩)) ?_
        refine XW.fam (S' := (205, [(2, .int 0), (1, .int lv), (0, .ref 94)], [.ref 94], (sh, I141, LQ137, R))) (M := mr_281) rfl (show mcode 281 204 = some (204, .aload_n 0, 1, 0, 0, 0, _) from rfl) (Or.inl ⟨.ref 94, rfl, rfl⟩) ?_
        refine XW.fam (S' := (208, [(2, .int 0), (1, .int lv), (0, .ref 94)], [.ref 130], (sh, I141, LQ137, R))) (M := mr_281) rfl (show mcode 281 205 = some (205, .getfield 121, 3, 12, 43, 0, _) from rfl) (Or.inr (Or.inr (Or.inr (Or.inr (Or.inr (Or.inr (Or.inr (Or.inl ⟨_, _, rfl, fl_ld c94 r94_43 (by decide) (by decide), rfl⟩)))))))) ?_
        refine XW.fam (S' := (209, [(2, .int 0), (1, .int lv), (0, .ref 94)], [.int lv, .ref 130], (sh, I141, LQ137, R))) (M := mr_281) rfl (show mcode 281 208 = some (208, .iload_n 1, 1, 0, 0, 0, _) from rfl) (Or.inl ⟨.int lv, rfl, rfl⟩) ?_
        refine XW.fam (S' := (210, [(2, .int 0), (1, .int lv), (0, .ref 94)], [.ref 94, .int lv, .ref 130], (sh, I141, LQ137, R))) (M := mr_281) rfl (show mcode 281 209 = some (209, .aload_n 0, 1, 0, 0, 0, _) from rfl) (Or.inl ⟨.ref 94, rfl, rfl⟩) ?_
        refine XW.fam (S' := (213, [(2, .int 0), (1, .int lv), (0, .ref 94)], [.int (I141 94 53), .int lv, .ref 130], (sh, I141, LQ137, R))) (M := mr_281) rfl (show mcode 281 210 = some (210, .getfield 376, 3, 12, 53, 0, _) from rfl) (Or.inr (Or.inr (Or.inr (Or.inr (Or.inr (Or.inr (Or.inr (Or.inl ⟨_, _, rfl, fl_ldI c94 (by decide) (by decide), rfl⟩)))))))) ?_
        have hin149 : inR lv 2730 = true := inR_of (by omega) (by omega)
        obtain ⟨I150, eI150⟩ : ∃ X, X = up2 I141 130 (lv).toNatClampNeg (I141 94 53) := ⟨_, rfl⟩
        refine XW.fam (S' := (214, [(2, .int 0), (1, .int lv), (0, .ref 94)], [], (sh, I150, LQ137, R))) (M := mr_281) rfl (show mcode 281 213 = some (213, .iastore, 1, 0, 0, 0, _) from rfl) (Or.inr (Or.inr (Or.inr (Or.inl ⟨_, _, by rw [eI150]; exact sta_i c130 hin149, rfl⟩)))) ?_
        have hL151 : LQ sh R J b n N (130 * nv J 94 52 + mv.toInt.toNat) (nv J 94 52) mv.toInt.toNat 3 0 (true, (gPx (tK b n) 3000 4 0 (i + 1)).2) (sh, I150, LQ137, R) := by rw [eI150]; exact LQ_130 hJ rfl rfl (LQ_t e hL142) rfl eln
        have k52 : I150 94 52 = ro := (hL151.2.2.1 94 52 rfl).trans ((hkR 94 52 rfl).symm.trans ero)
        obtain ⟨m2, em2⟩ : ∃ z : Int32, I150 125 (ro).toNatClampNeg = z := ⟨_, rfl⟩
        have hm2 : m2.toInt = mv.toInt := by have z : (I150 125 (nv J 94 52)).toInt = (mv.toInt.toNat : Int) := hL151.2.2.2.2.1; rw [← em2, ern, z]; omega
        have xi := inc32 (m := m2) (by omega) (by omega)
        refine XW.fam (S' := (215, [(2, .int 0), (1, .int lv), (0, .ref 94)], [.ref 94], (sh, I150, LQ137, R))) (M := mr_281) rfl (show mcode 281 214 = some (214, .aload_n 0, 1, 0, 0, 0, _) from rfl) (Or.inl ⟨.ref 94, rfl, rfl⟩) ?_
        refine XW.fam (S' := (218, [(2, .int 0), (1, .int lv), (0, .ref 94)], [.ref 125], (sh, I150, LQ137, R))) (M := mr_281) rfl (show mcode 281 215 = some (215, .getfield 106, 3, 12, 38, 0, _) from rfl) (Or.inr (Or.inr (Or.inr (Or.inr (Or.inr (Or.inr (Or.inr (Or.inl ⟨_, _, rfl, fl_ld c94 r94_38 (by decide) (by decide), rfl⟩)))))))) ?_
        refine XW.fam (S' := (219, [(2, .int 0), (1, .int lv), (0, .ref 94)], [.ref 94, .ref 125], (sh, I150, LQ137, R))) (M := mr_281) rfl (show mcode 281 218 = some (218, .aload_n 0, 1, 0, 0, 0, _) from rfl) (Or.inl ⟨.ref 94, rfl, rfl⟩) ?_
        refine XW.fam (S' := (222, [(2, .int 0), (1, .int lv), (0, .ref 94)], [.int (I150 94 52), .ref 125], (sh, I150, LQ137, R))) (M := mr_281) rfl (show mcode 281 219 = some (219, .getfield 373, 3, 12, 52, 0, _) from rfl) (Or.inr (Or.inr (Or.inr (Or.inr (Or.inr (Or.inr (Or.inr (Or.inl ⟨_, _, rfl, fl_ldI c94 (by decide) (by decide), rfl⟩)))))))) ?_
        rw [k52]
        refine XW.fam (S' := (223, [(2, .int 0), (1, .int lv), (0, .ref 94)], [.int ro, .ref 125, .int ro, .ref 125], (sh, I150, LQ137, R))) (M := mr_281) rfl (show mcode 281 222 = some (222, .dup2, 1, 0, 0, 0, _) from rfl) (Or.inr (Or.inr (Or.inr (Or.inr (Or.inr (Or.inl ⟨_, rfl, rfl⟩)))))) ?_
        have hin152 : inR ro 21 = true := inR_of (by omega) (by omega)
        refine XW.fam (S' := (224, [(2, .int 0), (1, .int lv), (0, .ref 94)], [.int (I150 125 (ro).toNatClampNeg), .int ro, .ref 125], (sh, I150, LQ137, R))) (M := mr_281) rfl (show mcode 281 223 = some (223, .iaload, 1, 0, 0, 0, _) from rfl) (Or.inr (Or.inr (Or.inl ⟨_, lda_i c125 hin152, rfl⟩))) ?_
        rw [em2]
        refine XW.fam (S' := (225, [(2, .int 0), (1, .int lv), (0, .ref 94)], [.int 1, .int m2, .int ro, .ref 125], (sh, I150, LQ137, R))) (M := mr_281) rfl (show mcode 281 224 = some (224, .iconst 1, 1, 0, 0, 0, _) from rfl) (Or.inl ⟨.int 1, rfl, rfl⟩) ?_
        refine XW.fam (S' := (226, [(2, .int 0), (1, .int lv), (0, .ref 94)], [.int (m2 + 1), .int ro, .ref 125], (sh, I150, LQ137, R))) (M := mr_281) rfl (show mcode 281 225 = some (225, .iadd, 1, 0, 0, 0, _) from rfl) (Or.inr (Or.inr (Or.inr (Or.inr (Or.inr (Or.inl ⟨_, rfl, rfl⟩)))))) ?_
        have hin153 : inR ro 21 = true := inR_of (by omega) (by omega)
        obtain ⟨I154, eI154⟩ : ∃ X, X = up2 I150 125 (ro).toNatClampNeg (m2 + 1) := ⟨_, rfl⟩
        refine XW.fam (S' := (227, [(2, .int 0), (1, .int lv), (0, .ref 94)], [], (sh, I154, LQ137, R))) (M := mr_281) rfl (show mcode 281 226 = some (226, .iastore, 1, 0, 0, 0, _) from rfl) (Or.inr (Or.inr (Or.inr (Or.inl ⟨_, _, by rw [eI154]; exact sta_i c125 hin153, rfl⟩)))) ?_
        have hQ156 : QL sh R J b n N 1 (true, (gPx (tK b n) 3000 4 0 (i + 1)).2) (sh, I154, LQ137, R) := by rw [eI154]; exact LQ_125 hJ rfl rfl hL151 (by omega) (by omega) ern (by have z := hgo1; show 2 * ((mv.toInt.toNat : Int) + 1) ≤ (((gPx (tK b n) 3000 4 0 (i + 1)).2 : Nat) : Int) + 1; omega)
        refine XW.ret (r := none) ⟨rfl, by decide +kernel⟩ ?_
        have eL : gLn (tK b n) 3000 i = (true, (gPx (tK b n) 3000 4 0 (i + 1)).2) := by
          unfold gLn
          rw [if_neg (by omega), if_neg (by omega), if_neg (by omega)]
          rw [gB_t e]
          exact if_neg (by omega)
        rw [eL]
        exact ⟨rfl, hQ156⟩
      · skip
        refine XW.fam (S' := (196, [(2, .int 0), (1, .int lv), (0, .ref 94)], [], (sh, I141, LQ137, R))) (M := mr_281) rfl (show mcode 281 193 = some (193, .ifCond .eq 11, 3, 204, 0, 0, _) from rfl) (Or.inr (Or.inl ⟨196, [], rfl, rfl⟩)) ?_
        refine XW.fam (S' := (197, [(2, .int 0), (1, .int lv), (0, .ref 94)], [.ref 94], (sh, I141, LQ137, R))) (M := mr_281) rfl (show mcode 281 196 = some (196, .aload_n 0, 1, 0, 0, 0, _) from rfl) (Or.inl ⟨.ref 94, rfl, rfl⟩) ?_
        refine XW.call (d' := d + 2) (mc' := 0) (ms' := 0) (av := [.ref 94]) (rest := []) (M := mr_281) (Ma := mr_278) rfl (show mcode 281 197 = some (197, .invokevirtual 385, 3, 278, 0, 0, _) from rfl) rfl (by decide) (by decide) ⟨rfl, 94, _, rfl, c94⟩ rfl rfl (show 0 ≤ 8 by decide) (tc_nxtM (d := d) (c2 := 1) hB145 hq146 (lt_N hN hjN (by omega)) rfl) (by omega) (Nat.zero_le _) (Nat.zero_le _) (fun rQ157 wQ157 Q157 => ?_)
        obtain ⟨hrQ157, hqQ157⟩ := Q157
        subst hrQ157
        obtain ⟨shQ157, IQ157, LQ157, RQ157⟩ := wQ157
        obtain rfl : sh = shQ157 := hqQ157.2.1.2.2.2.1.symm
        obtain rfl : R = RQ157 := hqQ157.2.1.2.2.2.2.1.symm
        have hL158 : LQ sh R J b n N (130 * nv J 94 52 + mv.toInt.toNat) (nv J 94 52) mv.toInt.toNat 2 0 (true, (gPx (tK b n) 3000 4 0 (i + 1)).2 + 1) (sh, IQ157, LQ157, R) := LQ_of hL142 e (by decide) hqQ157 (by decide)
        have hB159 : mBs IQ157 b n N := mBs_keep hL158.2.2.1 hJ
        have hq160 : QM sh R IQ157 b n N 0 0 0 (true, (gPx (tK b n) 3000 4 0 (i + 1)).2 + 1) (sh, IQ157, LQ157, R) := ⟨hL158.1, hL158.2.1, fun _ _ _ => rfl, hL158.2.2.2.1⟩
        have ga161 := gram_allM (d := d) (sh := sh) (J := IQ157) (R := R) hB159 3000
        have hjN1 : (gPx (tK b n) 3000 4 0 (i + 1)).2 + 1 ≤ N := hL158.2.2.2.1.1.2
        refine XW.fam (S' := (201, [(2, .int 0), (1, .int lv), (0, .ref 94)], [.ref 94], (sh, IQ157, LQ157, R))) (M := mr_281) rfl (show mcode 281 200 = some (200, .aload_n 0, 1, 0, 0, 0, _) from rfl) (Or.inl ⟨.ref 94, rfl, rfl⟩) ?_
        refine XW.call (d' := (d + 4 + (6 * (8 - 0) + 6))) (mc' := 0) (ms' := 0) (av := [.ref 94]) (rest := []) (M := mr_281) (Ma := mr_291) rfl (show mcode 281 201 = some (201, .invokevirtual 424, 3, 291, 0, 0, _) from rfl) rfl (by decide) (by decide) ⟨rfl, 94, _, rfl, c94⟩ rfl rfl (show 0 ≤ 8 by decide) (ga161.2.2.2.2.2 0 ((gPx (tK b n) 3000 4 0 (i + 1)).2 + 1) 0 0 (by omega) (QM_wk hq160 (by omega)) (by omega) (by omega) (by omega)) (by omega) (Nat.zero_le _) (Nat.zero_le _) (fun rQ162 wQ162 Q162 => ?_)
        obtain ⟨hrQ162, hqQ162⟩ := Q162
        subst hrQ162
        obtain ⟨shQ162, IQ162, LQ162, RQ162⟩ := wQ162
        obtain rfl : sh = shQ162 := hqQ162.2.1.2.2.2.1.symm
        obtain rfl : R = RQ162 := hqQ162.2.1.2.2.2.2.1.symm
        have hL163 : LQ sh R J b n N (130 * nv J 94 52 + mv.toInt.toNat) (nv J 94 52) mv.toInt.toNat 2 (0 + 1) (gPx (tK b n) 3000 9 0 ((gPx (tK b n) 3000 4 0 (i + 1)).2 + 1)) (sh, IQ162, LQ162, R) := LQ_of hL158 rfl (by decide) hqQ162 (Int.le_refl _)
        have hgo9 := (gPx_ok hN 3000 0 ((gPx (tK b n) 3000 4 0 (i + 1)).2 + 1) hjN1).1 9 (by omega)
        refine XW.fam (S' := (205, [(2, .int 0), (1, .int lv), (0, .ref 94)], [.ref 94], (sh, IQ162, LQ162, R))) (M := mr_281) rfl (show mcode 281 204 = some (204, .aload_n 0, 1, 0, 0, 0, _) from rfl) (Or.inl ⟨.ref 94, rfl, rfl⟩) ?_
        refine XW.fam (S' := (208, [(2, .int 0), (1, .int lv), (0, .ref 94)], [.ref 130], (sh, IQ162, LQ162, R))) (M := mr_281) rfl (show mcode 281 205 = some (205, .getfield 121, 3, 12, 43, 0, _) from rfl) (Or.inr (Or.inr (Or.inr (Or.inr (Or.inr (Or.inr (Or.inr (Or.inl ⟨_, _, rfl, fl_ld c94 r94_43 (by decide) (by decide), rfl⟩)))))))) ?_
        refine XW.fam (S' := (209, [(2, .int 0), (1, .int lv), (0, .ref 94)], [.int lv, .ref 130], (sh, IQ162, LQ162, R))) (M := mr_281) rfl (show mcode 281 208 = some (208, .iload_n 1, 1, 0, 0, 0, _) from rfl) (Or.inl ⟨.int lv, rfl, rfl⟩) ?_
        refine XW.fam (S' := (210, [(2, .int 0), (1, .int lv), (0, .ref 94)], [.ref 94, .int lv, .ref 130], (sh, IQ162, LQ162, R))) (M := mr_281) rfl (show mcode 281 209 = some (209, .aload_n 0, 1, 0, 0, 0, _) from rfl) (Or.inl ⟨.ref 94, rfl, rfl⟩) ?_
        refine XW.fam (S' := (213, [(2, .int 0), (1, .int lv), (0, .ref 94)], [.int (IQ162 94 53), .int lv, .ref 130], (sh, IQ162, LQ162, R))) (M := mr_281) rfl (show mcode 281 210 = some (210, .getfield 376, 3, 12, 53, 0, _) from rfl) (Or.inr (Or.inr (Or.inr (Or.inr (Or.inr (Or.inr (Or.inr (Or.inl ⟨_, _, rfl, fl_ldI c94 (by decide) (by decide), rfl⟩)))))))) ?_
        have hin164 : inR lv 2730 = true := inR_of (by omega) (by omega)
        obtain ⟨I165, eI165⟩ : ∃ X, X = up2 IQ162 130 (lv).toNatClampNeg (IQ162 94 53) := ⟨_, rfl⟩
        refine XW.fam (S' := (214, [(2, .int 0), (1, .int lv), (0, .ref 94)], [], (sh, I165, LQ162, R))) (M := mr_281) rfl (show mcode 281 213 = some (213, .iastore, 1, 0, 0, 0, _) from rfl) (Or.inr (Or.inr (Or.inr (Or.inl ⟨_, _, by rw [eI165]; exact sta_i c130 hin164, rfl⟩)))) ?_
        have hL166 : LQ sh R J b n N (130 * nv J 94 52 + mv.toInt.toNat) (nv J 94 52) mv.toInt.toNat 3 (0 + 1) (gPx (tK b n) 3000 9 0 ((gPx (tK b n) 3000 4 0 (i + 1)).2 + 1)) (sh, I165, LQ162, R) := by rw [eI165]; exact LQ_130 hJ rfl rfl hL163 rfl eln
        have k52 : I165 94 52 = ro := (hL166.2.2.1 94 52 rfl).trans ((hkR 94 52 rfl).symm.trans ero)
        obtain ⟨m2, em2⟩ : ∃ z : Int32, I165 125 (ro).toNatClampNeg = z := ⟨_, rfl⟩
        have hm2 : m2.toInt = mv.toInt := by have z : (I165 125 (nv J 94 52)).toInt = (mv.toInt.toNat : Int) := hL166.2.2.2.2.1; rw [← em2, ern, z]; omega
        have xi := inc32 (m := m2) (by omega) (by omega)
        refine XW.fam (S' := (215, [(2, .int 0), (1, .int lv), (0, .ref 94)], [.ref 94], (sh, I165, LQ162, R))) (M := mr_281) rfl (show mcode 281 214 = some (214, .aload_n 0, 1, 0, 0, 0, _) from rfl) (Or.inl ⟨.ref 94, rfl, rfl⟩) ?_
        refine XW.fam (S' := (218, [(2, .int 0), (1, .int lv), (0, .ref 94)], [.ref 125], (sh, I165, LQ162, R))) (M := mr_281) rfl (show mcode 281 215 = some (215, .getfield 106, 3, 12, 38, 0, _) from rfl) (Or.inr (Or.inr (Or.inr (Or.inr (Or.inr (Or.inr (Or.inr (Or.inl ⟨_, _, rfl, fl_ld c94 r94_38 (by decide) (by decide), rfl⟩)))))))) ?_
        refine XW.fam (S' := (219, [(2, .int 0), (1, .int lv), (0, .ref 94)], [.ref 94, .ref 125], (sh, I165, LQ162, R))) (M := mr_281) rfl (show mcode 281 218 = some (218, .aload_n 0, 1, 0, 0, 0, _) from rfl) (Or.inl ⟨.ref 94, rfl, rfl⟩) ?_
        refine XW.fam (S' := (222, [(2, .int 0), (1, .int lv), (0, .ref 94)], [.int (I165 94 52), .ref 125], (sh, I165, LQ162, R))) (M := mr_281) rfl (show mcode 281 219 = some (219, .getfield 373, 3, 12, 52, 0, _) from rfl) (Or.inr (Or.inr (Or.inr (Or.inr (Or.inr (Or.inr (Or.inr (Or.inl ⟨_, _, rfl, fl_ldI c94 (by decide) (by decide), rfl⟩)))))))) ?_
        rw [k52]
        refine XW.fam (S' := (223, [(2, .int 0), (1, .int lv), (0, .ref 94)], [.int ro, .ref 125, .int ro, .ref 125], (sh, I165, LQ162, R))) (M := mr_281) rfl (show mcode 281 222 = some (222, .dup2, 1, 0, 0, 0, _) from rfl) (Or.inr (Or.inr (Or.inr (Or.inr (Or.inr (Or.inl ⟨_, rfl, rfl⟩)))))) ?_
        have hin167 : inR ro 21 = true := inR_of (by omega) (by omega)
        refine XW.fam (S' := (224, [(2, .int 0), (1, .int lv), (0, .ref 94)], [.int (I165 125 (ro).toNatClampNeg), .int ro, .ref 125], (sh, I165, LQ162, R))) (M := mr_281) rfl (show mcode 281 223 = some (223, .iaload, 1, 0, 0, 0, _) from rfl) (Or.inr (Or.inr (Or.inl ⟨_, lda_i c125 hin167, rfl⟩))) ?_
        rw [em2]
        refine XW.fam (S' := (225, [(2, .int 0), (1, .int lv), (0, .ref 94)], [.int 1, .int m2, .int ro, .ref 125], (sh, I165, LQ162, R))) (M := mr_281) rfl (show mcode 281 224 = some (224, .iconst 1, 1, 0, 0, 0, _) from rfl) (Or.inl ⟨.int 1, rfl, rfl⟩) ?_
        refine XW.fam (S' := (226, [(2, .int 0), (1, .int lv), (0, .ref 94)], [.int (m2 + 1), .int ro, .ref 125], (sh, I165, LQ162, R))) (M := mr_281) rfl (show mcode 281 225 = some (225, .iadd, 1, 0, 0, 0, _) from rfl) (Or.inr (Or.inr (Or.inr (Or.inr (Or.inr (Or.inl ⟨_, rfl, rfl⟩)))))) ?_
        have hin168 : inR ro 21 = true := inR_of (by omega) (by omega)
        obtain ⟨I169, eI169⟩ : ∃ X, X = up2 I165 125 (ro).toNatClampNeg (m2 + 1) := ⟨_, rfl⟩
        refine XW.fam (S' := (227, [(2, .int 0), (1, .int lv), (0, .ref 94)], [], (sh, I169, LQ162, R))) (M := mr_281) rfl (show mcode 281 226 = some (226, .iastore, 1, 0, 0, 0, _) from rfl) (Or.inr (Or.inr (Or.inr (Or.inl ⟨_, _, by rw [eI169]; exact sta_i c125 hin168, rfl⟩)))) ?_
        have hQ171 : QL sh R J b n N 1 (gPx (tK b n) 3000 9 0 ((gPx (tK b n) 3000 4 0 (i + 1)).2 + 1)) (sh, I169, LQ162, R) := by rw [eI169]; exact LQ_125 hJ rfl rfl hL166 (by omega) (by omega) ern (by have z := hgo9.1; show 2 * ((mv.toInt.toNat : Int) + 1) ≤ (((gPx (tK b n) 3000 9 0 ((gPx (tK b n) 3000 4 0 (i + 1)).2 + 1)).2 : Nat) : Int) + 1; omega)
        refine XW.ret (r := none) ⟨rfl, by decide +kernel⟩ ?_
        have eL : gLn (tK b n) 3000 i = (gPx (tK b n) 3000 9 0 ((gPx (tK b n) 3000 4 0 (i + 1)).2 + 1)) := by
          unfold gLn
          rw [if_neg (by omega), if_neg (by omega), if_neg (by omega)]
          rw [gB_t e]
          exact if_pos (by omega)
        rw [eL]
        exact ⟨rfl, hQ171⟩
    | false =>
      refine XW.fam (S' := (152, [(2, .int 0), (1, .int lv), (0, .ref 94)], [.ref 94], (sh, IQ137, LQ137, R))) (M := mr_281) rfl (show mcode 281 151 = some (151, .aload_n 0, 1, 0, 0, 0, _) from rfl) (Or.inl ⟨.ref 94, rfl, rfl⟩) ?_
      refine XW.fam (S' := (155, [(2, .int 0), (1, .int lv), (0, .ref 94)], [.ref 129], (sh, IQ137, LQ137, R))) (M := mr_281) rfl (show mcode 281 152 = some (152, .getfield 118, 3, 12, 42, 0, _) from rfl) (Or.inr (Or.inr (Or.inr (Or.inr (Or.inr (Or.inr (Or.inr (Or.inl ⟨_, _, rfl, fl_ld c94 r94_42 (by decide) (by decide), rfl⟩)))))))) ?_
      refine XW.fam (S' := (156, [(2, .int 0), (1, .int lv), (0, .ref 94)], [.int lv, .ref 129], (sh, IQ137, LQ137, R))) (M := mr_281) rfl (show mcode 281 155 = some (155, .iload_n 1, 1, 0, 0, 0, _) from rfl) (Or.inl ⟨.int lv, rfl, rfl⟩) ?_
      refine XW.fam (S' := (157, [(2, .int 0), (1, .int lv), (0, .ref 94)], [.ref 94, .int lv, .ref 129], (sh, IQ137, LQ137, R))) (M := mr_281) rfl (show mcode 281 156 = some (156, .aload_n 0, 1, 0, 0, 0, _) from rfl) (Or.inl ⟨.ref 94, rfl, rfl⟩) ?_
      refine XW.fam (S' := (160, [(2, .int 0), (1, .int lv), (0, .ref 94)], [.int (IQ137 94 53), .int lv, .ref 129], (sh, IQ137, LQ137, R))) (M := mr_281) rfl (show mcode 281 157 = some (157, .getfield 376, 3, 12, 53, 0, _) from rfl) (Or.inr (Or.inr (Or.inr (Or.inr (Or.inr (Or.inr (Or.inr (Or.inl ⟨_, _, rfl, fl_ldI c94 (by decide) (by decide), rfl⟩)))))))) ?_
      have hin172 : inR lv 2730 = true := inR_of (by omega) (by omega)
      obtain ⟨I173, eI173⟩ : ∃ X, X = up2 IQ137 129 (lv).toNatClampNeg (IQ137 94 53) := ⟨_, rfl⟩
      refine XW.fam (S' := (161, [(2, .int 0), (1, .int lv), (0, .ref 94)], [], (sh, I173, LQ137, R))) (M := mr_281) rfl (show mcode 281 160 = some (160, .iastore, 1, 0, 0, 0, _) from rfl) (Or.inr (Or.inr (Or.inr (Or.inl ⟨_, _, by rw [eI173]; exact sta_i c129 hin172, rfl⟩)))) ?_
      have hL174 : LQ sh R J b n N (130 * nv J 94 52 + mv.toInt.toNat) (nv J 94 52) mv.toInt.toNat 2 (0 + 1) (gPx (tK b n) 3000 4 0 (i + 1)) (sh, I173, LQ137, R) := by rw [eI173]; exact LQ_129f hJ rfl rfl hL138 rfl eln e
      obtain ⟨fl175, efl175⟩ : ∃ z : Int32, I173 94 50 = z := ⟨_, rfl⟩
      have hfl175 : fl175.toInt = (tS b n (gPx (tK b n) 3000 4 0 (i + 1)).2 : Int) := by rw [← efl175]; exact (hL174.2.2.2.1.2.2 e).1
      refine XW.fam (S' := (162, [(2, .int 0), (1, .int lv), (0, .ref 94)], [.ref 94], (sh, I173, LQ137, R))) (M := mr_281) rfl (show mcode 281 161 = some (161, .aload_n 0, 1, 0, 0, 0, _) from rfl) (Or.inl ⟨.ref 94, rfl, rfl⟩) ?_
      refine XW.fam (S' := (165, [(2, .int 0), (1, .int lv), (0, .ref 94)], [.int (I173 94 50)], (sh, I173, LQ137, R))) (M := mr_281) rfl (show mcode 281 162 = some (162, .getfield 370, 3, 12, 50, 0, _) from rfl) (Or.inr (Or.inr (Or.inr (Or.inr (Or.inr (Or.inr (Or.inr (Or.inl ⟨_, _, rfl, fl_ldI c94 (by decide) (by decide), rfl⟩)))))))) ?_
      rw [efl175]
      have k176 : bcmp .lt fl175 0 = false := bcF (c := .lt) (a := (fl175).toInt) (b := 0) rfl (by decide) (by show ¬ ((fl175).toInt < 0); omega)
      refine XW.fam (S' := (168, [(2, .int 0), (1, .int lv), (0, .ref 94)], [], (sh, I173, LQ137, R))) (M := mr_281) rfl (show mcode 281 165 = some (165, .ifCond .lt 4, 3, 169, 0, 0, _) from rfl) (Or.inr (Or.inl ⟨168, [], by simp [brn, k176], rfl⟩)) ?_
      refine XW.ret (r := none) ⟨rfl, by decide +kernel⟩ ?_
      have eL : gLn (tK b n) 3000 i = (gPx (tK b n) 3000 4 0 (i + 1)) := by
        unfold gLn
        rw [if_neg (by omega), if_neg (by omega), if_neg (by omega)]
        exact gB_f e
      rw [eL]
      exact ⟨rfl, QL_f hL174 e⟩
