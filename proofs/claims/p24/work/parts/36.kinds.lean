/-! ===== which stores keep the rows: the model's parser ===== -/
theorem e1_g {QB SH : Nat} (hQ : ¬ QB = 94) (hS : SH < 111) {rho : Nat → Int} {gs : List (Nat × aI)} {I : Nat → Nat → Int32} {q i : Nat} {k : Int32} (h1 : ¬ q = QB) (h2 : ¬ (q = 94 ∧ i = SH)) (h3 : ∀ e ∈ gs, 111 ≤ e.1) (h : e1 QB SH I) : e1 QB SH (gI rho gs (up2 I q i k)) := by
  have h' := e1_put hQ (x := k) h1 h2 h
  intro s hs
  rw [gI_row hQ]
  rw [gI_ne (fun e he q => by have := h3 e he; omega)] at hs
  exact h' s hs
/-- beyond what is laid -/
theorem e2_beyond {I I' : Nat → Nat → Int32} {p : Nat} (h94 : I' 94 = I 94) (h125 : I' 125 = I 125) (h128 : I' 128 = I 128) (h129 : I' 129 = I 129) (h130 : I' 130 = I 130) (a1 : ∀ k, k < p → I' 131 k = I 131 k ∧ I' 132 k = I 132 k) (hp : 270 * nv I 94 52 + nv I 94 53 ≤ p) (hR : nv I 94 35 ≤ nv I 94 52) (h : e2 I) : e2 I' := by
  have nn : ∀ k, nv I' 94 k = nv I 94 k := fun k => by unfold nv; rw [h94]
  have za : ∀ k, k < p → zv I 131 k = zv I' 131 k ∧ zv I 132 k = zv I' 132 k := by
    intro k hk
    have := a1 k hk
    unfold zv
    rw [this.1, this.2]
    exact ⟨rfl, rfl⟩
  refine ⟨rowsOK_far hR (by rw [h94]) (fun k _ => by rw [h125]) (fun k _ => by rw [h128, h129, h130]; exact ⟨rfl, rfl, rfl⟩) (fun k hk => a1 k (by omega)) h.1, fun hq => ?_⟩
  obtain ⟨c1, c2, c3, c4, c5, c6, c7⟩ := h.2 (by unfold zv at hq ⊢; rw [h94] at hq; exact hq)
  have k3 : zv I' 94 200 = zv I 94 200 := by unfold zv; rw [h94]
  unfold curOK
  rw [nn, nn, nn, nn, k3]
  refine ⟨c1, c2, c3, vsg_congr (fun k _ hk => za k (by omega)) c4, vsg_congr (fun k _ hk => za k (by omega)) c5, ?_, fun i hi => ?_⟩
  · rw [← hgt_congr (A := zv I 131) (fun k h1 h2 => (za k (by omega)).1)]
    exact c6
  · have hi0 : i < nv I 125 (nv I 94 52) := by unfold nv at hi ⊢; rw [h125] at hi; exact hi
    obtain ⟨d1, d2, d3⟩ := c7 i hi0
    have e130 : nv I' 130 (130 * nv I 94 52 + i) = nv I 130 (130 * nv I 94 52 + i) := by unfold nv; rw [h130]
    exact ⟨d1, lineOK_congr (by rw [h128]) (by rw [h129]) (by rw [h130]) (fun k hk => a1 k (by omega)) d2, by omega⟩
def pl94 (A : aS) (k : Nat) : Option aI := plk A.2.2.2.1 94 (nK (k : Int))
theorem pl94_ok {A : aS} {rho : Nat → Int} {I : Nat → Nat → Int32} {k : Nat} {a : aI} (hP : pOK A.2.2.1.1 rho A.2.2.2.1 I) (h : pl94 A k = some a) : nb A.2.2.1.1 a ∧ fvl rho a = zv I 94 k := plk_K hP h
def pva (A : aS) (a : aI) : Bool := prv A.2.2.1 A.2.2.2.2.1 a
/-- what a counted step does to the height, and what it wants -/
def layk (l h : Int) : Option (Int × Int) := bif (ieq l 1 && ieq h 1) || (ieq l 2 && ieq h 2) then some (1, 0) else bif ieq l 3 && ieq h 3 then some (0, 1) else bif ile 4 l then some (-1, 2) else none
theorem layk_ok {l h w d n : Int} (hl : l ≤ w) (hh : w ≤ h) (e : layk l h = some (d, n)) : dl w = d ∧ ned w = n ∧ (w = 2 → l = 2) := by
  unfold layk at e
  cases c1 : ((ieq l 1 && ieq h 1) || (ieq l 2 && ieq h 2)) with
  | true =>
    rw [c1] at e
    cases e
    simp only [Bool.or_eq_true, Bool.and_eq_true, ieq_iff] at c1
    have : w = 1 ∨ w = 2 := by omega
    unfold dl ned
    rw [if_pos this, if_pos this]
    exact ⟨rfl, rfl, fun q => by omega⟩
  | false =>
    rw [c1] at e
    simp only [cond_false] at e
    cases c2 : (ieq l 3 && ieq h 3) with
    | true =>
      rw [c2] at e
      cases e
      simp only [Bool.and_eq_true, ieq_iff] at c2
      have h3 : w = 3 := by omega
      subst h3
      exact ⟨rfl, rfl, fun q => by omega⟩
    | false =>
      rw [c2] at e
      simp only [cond_false] at e
      cases c3 : ile 4 l with
      | true =>
        rw [c3] at e
        cases e
        have c3 := ile_iff.mp c3
        have n1 : ¬ (w = 1 ∨ w = 2) := by omega
        have n2 : ¬ w = 3 := by omega
        refine ⟨?_, ?_, fun q => by omega⟩
        · unfold dl; rw [if_neg n1, if_neg n2]
        · unfold ned; rw [if_neg n1, if_neg n2]
      | false => rw [c3] at e; cases e
/-- where it can't be shown that there is enough, nothing more is said of the row -/
def layg (A : aS) (wh vv ht : aI) : Option (List (Nat × aI)) := match layk (ivl A.2.2.1 wh).1 (ivl A.2.2.1 wh).2 with
  | none => none
  | some (d, n) => bif !(ieq (ivl A.2.2.1 wh).1 2) || (pva A vv && pva A (nsb (nK 9) vv)) then some ((200, nad ht (nK d)) :: (bif pva A (nsb ht (nK n)) then [] else [(201, nK 0)])) else none
theorem layg_ok {A : aS} {wh vv ht : aI} {gs : List (Nat × aI)} {rho : Nat → Int} (hB : bOK A.2.2.1 rho) (hF : cOK A.2.2.1.1 rho A.2.2.2.2.1) (nw : nb A.2.2.1.1 wh) (nvv : nb A.2.2.1.1 vv) (nh : nb A.2.2.1.1 ht) (h : layg A wh vv ht = some gs) : ∃ t, fvl rho t = fvl rho ht + dl (fvl rho wh) ∧ ((gs = [(200, t)] ∧ ned (fvl rho wh) ≤ fvl rho ht ∧ (fvl rho wh = 2 → 0 ≤ fvl rho vv ∧ fvl rho vv ≤ 9)) ∨ gs = [(200, t), (201, nK 0)]) := by
  have pv : ∀ {a : aI}, nb A.2.2.1.1 a → pva A a = true → 0 ≤ fvl rho a := fun ha hp => prv_ok hB hF ha hp
  have hv := ivf_ok hB nw
  unfold layg at h
  split at h
  · cases h
  · next d n e =>
    obtain ⟨k1, k2, k3⟩ := layk_ok hv.1 hv.2 e
    obtain ⟨g, h8⟩ := bif_o h
    cases h8
    refine ⟨nad ht (nK d), by rw [fvl_ad, fvl_K, k1], ?_⟩
    cases c : pva A (nsb ht (nK n)) with
    | false => exact Or.inr rfl
    | true =>
      have hn := pv (nb_sb nh nb_K) c
      rw [fvl_sb, fvl_K] at hn
      refine Or.inl ⟨rfl, by omega, fun q => ?_⟩
      rw [Bool.or_eq_true] at g
      rcases g with g | g
      · rw [k3 q] at g
        cases g
      · rw [Bool.and_eq_true] at g
        have a1 := pv nvv g.1
        have a2 := pv (nb_sb nb_K nvv) g.2
        rw [fvl_sb, fvl_K] at a2
        omega
/-- kinds, by place: 0 a step is laid (what, with); 1 it is counted; 2 a row begins; 3 it has no lines; 4 nothing is laid; 5, 6, 7 from, to, when; 8 a line is counted; 9 a rule is counted -/
noncomputable def kchk (tab : List ((Nat × Nat) × Nat)) (A : aS) : Option (List (Nat × aI)) := match tab.find? (fun e => Nat.beq e.1.1 A.1.1 && Nat.beq e.1.2 A.1.2.1), stOf A with
  | some (_, kd), some (q, x, z) => match pl94 A 35, pl94 A 52, pl94 A 53 with
    | some ru, some ro, some la => match kd with
      | 0 => bif (Nat.beq q 131 || Nat.beq q 132) && (pva A (nsb x (nad (nsc 270 ro) la)) && (pva A (nsb ro ru) && (pva A ru && pva A la))) then some [] else none
      | 1 => match plk A.2.2.2.1 131 (nad (nsc 270 ro) la), plk A.2.2.2.1 132 (nad (nsc 270 ro) la), pl94 A 200 with
        | some wh, some vv, some ht => bif (Nat.beq q 94 && neq x (nK 53)) && (neq z (nad la (nK 1)) && (pva A (nsb ro ru) && (pva A ru && (pva A la && pva A (nsb (nK 269) la))))) then layg A wh vv ht else none
        | _, _, _ => none
      | 2 => bif Nat.beq q 94 && neq x (nK 52) then some [(201, nK 0)] else none
      | 3 => match pl94 A 201 with
        | some fg => bif Nat.beq q 125 && (neq x ro && (neq fg (nK 0) && (pva A (nsb ro ru) && pva A ru))) then some [] else none
        | none => none
      | 4 => match plk A.2.2.2.1 125 ro with
        | some lm => bif (Nat.beq q 94 && neq x (nK 53)) && (neq z (nK 0) && neq lm (nK 0)) then some [(202, nK 0), (203, nK 0), (200, nK 0), (201, nK 1)] else none
        | none => none
      | 9 => match pl94 A 201 with
        | some fg => bif (Nat.beq q 94 && neq x (nK 35)) && (neq z (nad ru (nK 1)) && (neq ro ru && (pva A ru && (pva A (nsb fg (nK 1)) && pva A (nsb (nK 1) fg))))) then some [] else none
        | none => none
      | kd => match plk A.2.2.2.1 125 ro, pl94 A 202, pl94 A 203 with
        | some lm, some a2, some a3 => match kd with
          | 5 => bif Nat.beq q 128 && (neq x (nad (nsc 130 ro) lm) && (pva A (nsb ro ru) && (pva A ru && pva A lm))) then some [(202, la), (203, la), (200, nK 0)] else none
          | 6 => bif Nat.beq q 129 && (neq x (nad (nsc 130 ro) lm) && (pva A (nsb ro ru) && (pva A ru && (pva A lm && neq a2 a3)))) then some [(203, la), (200, nK 0)] else none
          | 7 => bif Nat.beq q 130 && (neq x (nad (nsc 130 ro) lm) && (pva A (nsb ro ru) && (pva A ru && pva A lm))) then some [] else none
          | 8 => match plk A.2.2.2.1 128 (nad (nsc 130 ro) lm), plk A.2.2.2.1 129 (nad (nsc 130 ro) lm), plk A.2.2.2.1 130 (nad (nsc 130 ro) lm) with
            | some b1, some b2, some b3 => bif (Nat.beq q 125 && (neq x ro && neq z (nad lm (nK 1)))) && ((neq b1 a2 && (neq b2 a3 && neq b3 la)) && (pva A (nsb (nK 259) (nsc 2 lm)) && (pva A lm && (pva A (nsb ro ru) && pva A ru)))) then some [] else none
            | _, _, _ => none
          | _ => none
        | _, _, _ => none
    | _, _, _ => none
  | _, _ => none
theorem kchk_ok {QB : Nat} (hQ : ¬ QB = 94 ∧ ¬ QB = 125 ∧ ¬ QB = 128 ∧ ¬ QB = 129 ∧ ¬ QB = 130 ∧ ¬ QB = 131 ∧ ¬ QB = 132) {tab : List ((Nat × Nat) × Nat)} {A : aS} {gs : List (Nat × aI)} {q : Nat} {x z : aI} (h : kchk tab A = some gs) (hst : stOf A = some (q, x, z)) {rho : Nat → Int} {I : Nat → Nat → Int32} {k : Int32} (hB : bOK A.2.2.1 rho) (hF : cOK A.2.2.1.1 rho A.2.2.2.2.1) (hP : pOK A.2.2.1.1 rho A.2.2.2.1 I) (hx : nb A.2.2.1.1 x) (hz : nb A.2.2.1.1 z) (hx0 : 0 ≤ fvl rho x) (hk : k.toInt = fvl rho z) (hgs : ∀ e ∈ gs, nb A.2.2.1.1 e.2 ∧ lo32 ≤ fvl rho e.2 ∧ fvl rho e.2 ≤ hi32) (h1 : e1 QB 60 I) (h2 : e2 I) : e1 QB 60 (gI rho gs (up2 I q (fvl rho x).toNat k)) ∧ e2 (gI rho gs (up2 I q (fvl rho x).toNat k)) := by
  have pv : ∀ {a : aI}, nb A.2.2.1.1 a → pva A a = true → 0 ≤ fvl rho a := fun ha hp => prv_ok hB hF ha hp
  unfold kchk at h
  rw [hst] at h
  split at h
  · next kd q' x' z' hfd e0 =>
    cases e0
    split at h
    · next ru ro la eru ero ela =>
      obtain ⟨nru, vru⟩ := pl94_ok hP eru
      obtain ⟨nro, vro⟩ := pl94_ok hP ero
      obtain ⟨nla, vla⟩ := pl94_ok hP ela
      split at h
      · obtain ⟨g, h8⟩ := bif_o h
        cases h8
        simp only [Bool.and_eq_true, Bool.or_eq_true] at g
        obtain ⟨g0, g1, g2, g3, g4⟩ := g
        have v1 := pv (nb_sb hx (nb_ad (nb_sc nro) nla)) g1
        have v2 := pv (nb_sb nro nru) g2
        have v3 := pv nru g3
        have v4 := pv nla g4
        rw [fvl_sb, fvl_ad, fvl_sc, vro, vla] at v1
        rw [fvl_sb, vro, vru] at v2
        rw [vru] at v3
        rw [vla] at v4
        have e131 : q = 131 ∨ q = 132 := by
          rcases g0 with g | g
          · exact Or.inl (Nat.eq_of_beq_eq_true g)
          · exact Or.inr (Nat.eq_of_beq_eq_true g)
        have hp : 270 * nv I 94 52 + nv I 94 53 ≤ (fvl rho x).toNat := by unfold nv; unfold zv at v1 v2 v3 v4; omega
        have hR : nv I 94 35 ≤ nv I 94 52 := by unfold nv; unfold zv at v2 v3; omega
        refine ⟨e1_g hQ.1 (by decide) (by omega) (by omega) (fun e he => by cases he) h1, ?_⟩
        show e2 (up2 I q (fvl rho x).toNat k)
        have ne : ∀ q', ¬ q' = q → up2 I q (fvl rho x).toNat k q' = I q' := fun q' h => up2_row h
        refine e2_beyond (p := (fvl rho x).toNat) (ne _ (by omega)) (ne _ (by omega)) (ne _ (by omega)) (ne _ (by omega)) (ne _ (by omega)) (fun k' hk' => ⟨up2_ne (by omega), up2_ne (by omega)⟩) hp hR h2
      · -- 1
        split at h
        · next wh vv ht ewh evv eht =>
          obtain ⟨g, h8⟩ := bif_o h
          simp only [Bool.and_eq_true] at g
          obtain ⟨⟨g0, g1⟩, g2, g3, g4, g5, g6⟩ := g
          obtain rfl := Nat.eq_of_beq_eq_true g0
          have ex := neq_ok g1
          subst ex
          have ez := neq_ok g2
          subst ez
          obtain ⟨-, nwh, -, dwh⟩ := hP _ (plk_mem ewh)
          obtain ⟨-, nvv, -, dvv⟩ := hP _ (plk_mem evv)
          dsimp only at nwh dwh nvv dvv
          obtain ⟨nht, vht⟩ := pl94_ok hP eht
          have v2 := pv (nb_sb nro nru) g3
          have v3 := pv nru g4
          have v4 := pv nla g5
          have v6 := pv (nb_sb nb_K nla) g6
          rw [fvl_sb, vro, vru] at v2
          rw [vru] at v3
          rw [vla] at v4
          rw [fvl_sb, fvl_K, vla] at v6
          rw [fvl_ad, fvl_K, vla] at hk
          have e53 : (fvl rho (nK 53)).toNat = 53 := by rw [fvl_K]; rfl
          rw [e53]
          have hR : nv I 94 35 ≤ nv I 94 52 := by unfold nv; unfold zv at v2 v3; omega
          have hp : (fvl rho (nad (nsc 270 ro) la)).toNat = 270 * nv I 94 52 + nv I 94 53 := by
            rw [fvl_ad, fvl_sc, vro, vla]
            unfold nv
            unfold zv at v2 v3 v4 ⊢
            omega
          obtain ⟨t, ht1, ht2⟩ := layg_ok hB hF nwh nvv nht h8
          have hge : ∀ e ∈ gs, e.1 = 200 ∨ e.1 = 201 := by
            intro e he
            rcases ht2 with ⟨rfl, -⟩ | rfl
            · rcases List.mem_singleton.mp he with rfl
              exact Or.inl rfl
            · simp only [List.mem_cons, List.not_mem_nil, or_false] at he
              rcases he with rfl | rfl
              · exact Or.inl rfl
              · exact Or.inr rfl
          have row : ∀ q', ¬ q' = 94 → gI rho gs (up2 I 94 53 k) q' = I q' := fun q' h => (gI_row h).trans (up2_row h)
          have m : ∀ k', ¬ k' = 53 → ¬ k' = 200 → ¬ k' = 201 → gI rho gs (up2 I 94 53 k) 94 k' = I 94 k' := by
            intro k' a1 a2 a3
            rw [gI_ne (fun e he q => by have := hge e he; omega)]
            exact up2_ne (fun e => a1 e.2)
          have m53 : gI rho gs (up2 I 94 53 k) 94 53 = k := by
            rw [gI_ne (fun e he q => by have := hge e he; omega)]
            exact up2_eq
          refine ⟨e1_g hQ.1 (by decide) (fun e => hQ.1 e.symm) (by decide) (fun e he => by have := hge e he; omega) h1, ?_⟩
          have hbt := (hgs (200, t) (by rcases ht2 with ⟨rfl, -⟩ | rfl <;> exact List.mem_cons_self)).2
          dsimp only at hbt
          have m200 : zv (gI rho gs (up2 I 94 53 k)) 94 200 = fvl rho t := by
            unfold zv
            rcases ht2 with ⟨rfl, -⟩ | rfl
            · simp only [gI, List.foldl_cons, List.foldl_nil]
              rw [up2_eq, ofI hbt.1 hbt.2]
            · simp only [gI, List.foldl_cons, List.foldl_nil]
              rw [up2_ne (by decide), up2_eq, ofI hbt.1 hbt.2]
          refine e2_lay (p := 270 * nv I 94 52 + nv I 94 53) (what := I 131 (270 * nv I 94 52 + nv I 94 53)) (v := I 132 (270 * nv I 94 52 + nv I 94 53)) (row 125 (by decide)) (row 128 (by decide)) (row 129 (by decide)) (row 130 (by decide)) (m 35 (by decide) (by decide) (by decide)) (m 52 (by decide) (by decide) (by decide)) (m 202 (by decide) (by decide) (by decide)) (m 203 (by decide) (by decide) (by decide)) ?_ v4 rfl (fun k' _ => by rw [row 131 (by decide), row 132 (by decide)]; exact ⟨rfl, rfl⟩) (by rw [row 131 (by decide)]) (by rw [row 132 (by decide)]) ?_ ?_ hR ?_ h2
          · unfold zv
            rw [m53, hk]
            rfl
          · rw [m200, ht1, vht, ← dwh, hp]
          · intro hf
            rcases ht2 with ⟨rfl, q1, q2⟩ | rfl
            · rw [← dwh, vht, hp] at q1
              rw [← dwh, ← dvv, hp] at q2
              refine ⟨?_, q1, q2⟩
              unfold zv at hf ⊢
              rw [gI_ne (fun e he q => by rcases List.mem_singleton.mp he with rfl; have q2 : (201 : Nat) = 200 := q.2; omega), up2_ne (by decide)] at hf
              exact hf
            · exfalso
              unfold zv at hf
              simp only [gI, List.foldl_cons, List.foldl_nil] at hf
              rw [up2_eq, fvl_K] at hf
              exact absurd hf (by decide)
          · unfold nv
            unfold zv at v4 v6
            omega
        · cases h
      · obtain ⟨g, h8⟩ := bif_o h
        cases h8
        rw [Bool.and_eq_true] at g
        obtain rfl := Nat.eq_of_beq_eq_true g.1
        have ex := neq_ok g.2
        subst ex
        have e52 : (fvl rho (nK 52)).toNat = 52 := by rw [fvl_K]; rfl
        rw [e52]
        refine ⟨e1_g hQ.1 (by decide) (fun e => hQ.1 e.symm) (by decide) (fun e he => by rcases List.mem_singleton.mp he with rfl; decide) h1, ?_⟩
        have row : ∀ q', ¬ q' = 94 → gI rho [(201, nK 0)] (up2 I 94 52 k) q' = I q' := fun q' h => (gI_row h).trans (up2_row h)
        refine e2_off (ro := nv I 94 35) (Nat.le_refl _) ?_ (fun k' _ => by rw [row 125 (by decide)]) (fun k' _ => by rw [row 128 (by decide), row 129 (by decide), row 130 (by decide)]; exact ⟨rfl, rfl, rfl⟩) (fun k' _ => by rw [row 131 (by decide), row 132 (by decide)]; exact ⟨rfl, rfl⟩) ?_ h2
        · rw [gI_ne (fun e he => by rcases List.mem_singleton.mp he with rfl; decide)]
          exact up2_ne (by decide)
        · show ¬ (up2 (up2 I 94 52 k) 94 201 (Int32.ofInt (fvl rho (nK 0))) 94 201).toInt = 1
          rw [up2_eq, fvl_K]
          decide
      · -- 3
        split at h
        · next fg efg =>
          obtain ⟨nfg, vfg⟩ := pl94_ok hP efg
          obtain ⟨g, h8⟩ := bif_o h
          cases h8
          simp only [Bool.and_eq_true] at g
          obtain ⟨g0, g1, g2, g3, g4⟩ := g
          obtain rfl := Nat.eq_of_beq_eq_true g0
          have ex := neq_ok g1
          subst ex
          have ef := neq_ok g2
          subst ef
          have v2 := pv (nb_sb nro nru) g3
          have v3 := pv nru g4
          rw [fvl_sb, vro, vru] at v2
          rw [vru] at v3
          rw [fvl_K] at vfg
          have hR : nv I 94 35 ≤ nv I 94 52 := by unfold nv; unfold zv at v2 v3; omega
          have hi : (fvl rho x).toNat = nv I 94 52 := by rw [vro]; rfl
          refine ⟨e1_g hQ.1 (by decide) (fun e => hQ.2.1 e.symm) (fun e => absurd e.1 (by decide)) (fun e he => by cases he) h1, ?_⟩
          show e2 (up2 I 125 (fvl rho x).toNat k)
          have ne : ∀ q', ¬ q' = 125 → up2 I 125 (fvl rho x).toNat k q' = I q' := fun q' h => up2_row h
          refine e2_off (ro := nv I 94 52) hR (by rw [ne 94 (by decide)]) (fun k' hk' => up2_ne (by omega)) (fun k' _ => by rw [ne 128 (by decide), ne 129 (by decide), ne 130 (by decide)]; exact ⟨rfl, rfl, rfl⟩) (fun k' _ => by rw [ne 131 (by decide), ne 132 (by decide)]; exact ⟨rfl, rfl⟩) ?_ h2
          unfold zv at vfg ⊢
          rw [ne 94 (by decide)]
          omega
        · cases h
      · -- 4
        split at h
        · next lm elm =>
          obtain ⟨p1, p2, p3, p4⟩ := hP _ (plk_mem elm)
          dsimp only at p1 p2 p3 p4
          obtain ⟨g, h8⟩ := bif_o h
          cases h8
          simp only [Bool.and_eq_true] at g
          obtain ⟨⟨g0, g1⟩, g2, g3⟩ := g
          obtain rfl := Nat.eq_of_beq_eq_true g0
          have ex := neq_ok g1
          subst ex
          have ez := neq_ok g2
          subst ez
          have el := neq_ok g3
          subst el
          have e53 : (fvl rho (nK 53)).toNat = 53 := by rw [fvl_K]; rfl
          rw [e53]
          rw [fvl_K] at hk p4
          refine ⟨e1_g hQ.1 (by decide) (fun e => hQ.1 e.symm) (by decide) (fun e he => by simp only [List.mem_cons, List.not_mem_nil, or_false] at he; rcases he with rfl | rfl | rfl | rfl <;> decide) h1, ?_⟩
          have row : ∀ q', ¬ q' = 94 → gI rho [(202, nK 0), (203, nK 0), (200, nK 0), (201, nK 1)] (up2 I 94 53 k) q' = I q' := fun q' h => (gI_row h).trans (up2_row h)
          have m : ∀ k', ¬ k' = 53 → ¬ k' = 200 → ¬ k' = 201 → ¬ k' = 202 → ¬ k' = 203 → gI rho [(202, nK 0), (203, nK 0), (200, nK 0), (201, nK 1)] (up2 I 94 53 k) 94 k' = I 94 k' := by
            intro k' a1 a2 a3 a4 a5
            rw [gI_ne (fun e he => by simp only [List.mem_cons, List.not_mem_nil, or_false] at he; rcases he with rfl | rfl | rfl | rfl <;> omega)]
            exact up2_ne (fun e => a1 e.2)
          have g53 : gI rho [(202, nK 0), (203, nK 0), (200, nK 0), (201, nK 1)] (up2 I 94 53 k) 94 53 = k := by
            rw [gI_ne (fun e he => by simp only [List.mem_cons, List.not_mem_nil, or_false] at he; rcases he with rfl | rfl | rfl | rfl <;> omega)]
            exact up2_eq
          have gv : ∀ k', k' = 202 ∨ k' = 203 ∨ k' = 200 → gI rho [(202, nK 0), (203, nK 0), (200, nK 0), (201, nK 1)] (up2 I 94 53 k) 94 k' = Int32.ofInt 0 := by
            intro k' hk'
            simp only [gI, List.foldl_cons, List.foldl_nil, fvl_K]
            rcases hk' with rfl | rfl | rfl <;> simp [up2]
          refine e2_new row (m 35 (by decide) (by decide) (by decide) (by decide) (by decide)) ?_ ?_ ?_ ?_ ?_ h2
          · unfold nv; rw [g53, hk]; rfl
          · unfold nv; rw [gv 202 (by simp)]; rfl
          · unfold nv; rw [gv 203 (by simp)]; rfl
          · unfold zv; rw [gv 200 (by simp)]; rfl
          · have n52 : nv (gI rho [(202, nK 0), (203, nK 0), (200, nK 0), (201, nK 1)] (up2 I 94 53 k)) 94 52 = (fvl rho ro).toNat := by
              unfold nv
              rw [m 52 (by decide) (by decide) (by decide) (by decide) (by decide), vro]
              rfl
            rw [n52]
            unfold nv
            rw [row 125 (by decide), p4]
            rfl
        · cases h
      · -- 9
        split at h
        · next fg efg =>
          obtain ⟨nfg, vfg⟩ := pl94_ok hP efg
          obtain ⟨g, h8⟩ := bif_o h
          cases h8
          simp only [Bool.and_eq_true] at g
          obtain ⟨⟨g0, g1⟩, g2, g3, g4, g5, g6⟩ := g
          obtain rfl := Nat.eq_of_beq_eq_true g0
          have ex := neq_ok g1
          subst ex
          have ez := neq_ok g2
          subst ez
          have er := neq_ok g3
          subst er
          have v3 := pv nru g4
          have v5 := pv (nb_sb nfg nb_K) g5
          have v6 := pv (nb_sb nb_K nfg) g6
          rw [fvl_sb, fvl_K, vfg] at v5 v6
          rw [vru] at v3
          rw [fvl_ad, fvl_K, vru] at hk
          have e35 : (fvl rho (nK 35)).toNat = 35 := by rw [fvl_K]; rfl
          rw [e35]
          refine ⟨e1_g hQ.1 (by decide) (fun e => hQ.1 e.symm) (by decide) (fun e he => by cases he) h1, ?_⟩
          show e2 (up2 I 94 35 k)
          refine e2_rule ?_ (by omega) (fun q' h => up2_row h) (fun k' hk' => up2_ne (fun e => hk' e.2)) ?_ h2
          · have : zv I 94 52 = zv I 94 35 := by rw [← vro, ← vru]
            unfold nv
            unfold zv at this
            rw [this]
          · unfold nv
            unfold zv at hk v3
            rw [up2_eq, hk]
            omega
        · cases h
      · -- 5, 6, 7, 8
        next kd' _ _ _ _ _ =>
        split at h
        · next lm a2 a3 elm ea2 ea3 =>
          obtain ⟨nlm0, nlm, p3, vlm⟩ := hP _ (plk_mem elm)
          dsimp only at nlm0 nlm p3 vlm
          obtain ⟨na2, va2⟩ := pl94_ok hP ea2
          obtain ⟨na3, va3⟩ := pl94_ok hP ea3
          have elm2 : (fvl rho ro).toNat = nv I 94 52 := by rw [vro]; rfl
          have vlm2 : fvl rho lm = zv I 125 (nv I 94 52) := by rw [← vlm, elm2]; rfl
          have hcut : ∀ {q0 : Nat} {gs0 : List (Nat × aI)}, (q0 = 128 ∨ q0 = 129 ∨ q0 = 130) → x = nad (nsc 130 ro) lm → 0 ≤ fvl rho (nsb ro ru) → 0 ≤ fvl rho ru → 0 ≤ fvl rho lm → (∀ e ∈ gs0, e.1 = 200 ∨ e.1 = 202 ∨ e.1 = 203) → ((nv (gI rho gs0 (up2 I q0 (fvl rho x).toNat k)) 94 202 = nv I 94 53 ∧ nv (gI rho gs0 (up2 I q0 (fvl rho x).toNat k)) 94 203 = nv I 94 53 ∧ zv (gI rho gs0 (up2 I q0 (fvl rho x).toNat k)) 94 200 = 0) ∨ (nv I 94 202 = nv I 94 203 ∧ nv (gI rho gs0 (up2 I q0 (fvl rho x).toNat k)) 94 202 = nv I 94 202 ∧ nv (gI rho gs0 (up2 I q0 (fvl rho x).toNat k)) 94 203 = nv I 94 53 ∧ zv (gI rho gs0 (up2 I q0 (fvl rho x).toNat k)) 94 200 = 0) ∨ (gI rho gs0 (up2 I q0 (fvl rho x).toNat k) 94 202 = I 94 202 ∧ gI rho gs0 (up2 I q0 (fvl rho x).toNat k) 94 203 = I 94 203 ∧ gI rho gs0 (up2 I q0 (fvl rho x).toNat k) 94 200 = I 94 200)) → e1 QB 60 (gI rho gs0 (up2 I q0 (fvl rho x).toNat k)) ∧ e2 (gI rho gs0 (up2 I q0 (fvl rho x).toNat k)) := by
            intro q0 gs0 hq0 hx' v2 v3 v4 hgs0 hg
            rw [fvl_sb, vro, vru] at v2
            rw [vru] at v3
            rw [vlm2] at v4
            have hR : nv I 94 35 ≤ nv I 94 52 := by unfold nv; unfold zv at v2 v3; omega
            have hl : (fvl rho x).toNat = 130 * nv I 94 52 + nv I 125 (nv I 94 52) := by
              rw [hx', fvl_ad, fvl_sc, vro, vlm2]
              unfold nv at v4 ⊢
              unfold zv at v2 v3 v4 ⊢
              omega
            have row : ∀ q', ¬ q' = 94 → ¬ q' = q0 → gI rho gs0 (up2 I q0 (fvl rho x).toNat k) q' = I q' := fun q' h h' => (gI_row h).trans (up2_row h')
            have m : ∀ k', ¬ k' = 200 → ¬ k' = 202 → ¬ k' = 203 → gI rho gs0 (up2 I q0 (fvl rho x).toNat k) 94 k' = I 94 k' := by
              intro k' a1 a2 a3
              rw [gI_ne (fun e he q => by have := hgs0 e he; omega)]
              exact up2_ne (fun e => by omega)
            refine ⟨e1_g hQ.1 (by decide) (by omega) (by omega) (fun e he => by have := hgs0 e he; omega) h1, ?_⟩
            refine e2_cut hR hl (m 35 (by decide) (by decide) (by decide)) (m 52 (by decide) (by decide) (by decide)) (m 53 (by decide) (by decide) (by decide)) (m 201 (by decide) (by decide) (by decide)) (row 125 (by decide) (by omega)) (row 131 (by decide) (by omega)) (row 132 (by decide) (by omega)) (fun k' hk' => ?_) hg h2
            have one : ∀ q', ¬ q' = 94 → gI rho gs0 (up2 I q0 (fvl rho x).toNat k) q' k' = I q' k' := fun q' h => by
              rw [gI_row h]
              exact up2_ne (fun e => hk' e.2)
            exact ⟨one 128 (by decide), one 129 (by decide), one 130 (by decide)⟩
          split at h
          · obtain ⟨g, h8⟩ := bif_o h
            cases h8
            simp only [Bool.and_eq_true] at g
            obtain ⟨g0, g1, g2, g3, g4⟩ := g
            obtain rfl := Nat.eq_of_beq_eq_true g0
            have hl2 := (hgs (202, la) List.mem_cons_self).2
            dsimp only at hl2
            have eo : (Int32.ofInt (fvl rho la)).toInt = zv I 94 53 := by rw [ofI hl2.1 hl2.2, vla]
            refine hcut (Or.inl rfl) (neq_ok g1) (pv (nb_sb nro nru) g2) (pv nru g3) (pv nlm g4) (fun e he => by simp only [List.mem_cons, List.not_mem_nil, or_false] at he; rcases he with rfl | rfl | rfl <;> simp) (Or.inl ⟨?_, ?_, ?_⟩)
            · unfold nv
              simp only [gI, List.foldl_cons, List.foldl_nil]
              rw [up2_ne (by decide), up2_ne (by decide), up2_eq, eo]
              rfl
            · unfold nv
              simp only [gI, List.foldl_cons, List.foldl_nil]
              rw [up2_ne (by decide), up2_eq, eo]
              rfl
            · unfold zv
              simp only [gI, List.foldl_cons, List.foldl_nil]
              rw [up2_eq, fvl_K]
              rfl
          · obtain ⟨g, h8⟩ := bif_o h
            cases h8
            simp only [Bool.and_eq_true] at g
            obtain ⟨g0, g1, g2, g3, g4, g5⟩ := g
            obtain rfl := Nat.eq_of_beq_eq_true g0
            have ea := neq_ok g5
            have hl2 := (hgs (203, la) List.mem_cons_self).2
            dsimp only at hl2
            have eo : (Int32.ofInt (fvl rho la)).toInt = zv I 94 53 := by rw [ofI hl2.1 hl2.2, vla]
            refine hcut (Or.inr (Or.inl rfl)) (neq_ok g1) (pv (nb_sb nro nru) g2) (pv nru g3) (pv nlm g4) (fun e he => by simp only [List.mem_cons, List.not_mem_nil, or_false] at he; rcases he with rfl | rfl <;> simp) (Or.inr (Or.inl ⟨?_, ?_, ?_, ?_⟩))
            · have : zv I 94 202 = zv I 94 203 := by rw [← va2, ← va3, ea]
              unfold zv at this
              unfold nv
              rw [this]
            · unfold nv
              simp only [gI, List.foldl_cons, List.foldl_nil]
              rw [up2_ne (by decide), up2_ne (by decide), up2_ne (fun e => absurd e.1 (by decide))]
            · unfold nv
              simp only [gI, List.foldl_cons, List.foldl_nil]
              rw [up2_ne (by decide), up2_eq, eo]
              rfl
            · unfold zv
              simp only [gI, List.foldl_cons, List.foldl_nil]
              rw [up2_eq, fvl_K]
              rfl
          · obtain ⟨g, h8⟩ := bif_o h
            cases h8
            simp only [Bool.and_eq_true] at g
            obtain ⟨g0, g1, g2, g3, g4⟩ := g
            obtain rfl := Nat.eq_of_beq_eq_true g0
            refine hcut (gs0 := []) (Or.inr (Or.inr rfl)) (neq_ok g1) (pv (nb_sb nro nru) g2) (pv nru g3) (pv nlm g4) (fun e he => by cases he) (Or.inr (Or.inr ⟨?_, ?_, ?_⟩))
            · exact up2_ne (I := I) (q := 130) (k := (fvl rho x).toNat) (q' := 94) (k' := 202) (x := k) (fun e => absurd e.1 (by decide))
            · exact up2_ne (I := I) (q := 130) (k := (fvl rho x).toNat) (q' := 94) (k' := 203) (x := k) (fun e => absurd e.1 (by decide))
            · exact up2_ne (I := I) (q := 130) (k := (fvl rho x).toNat) (q' := 94) (k' := 200) (x := k) (fun e => absurd e.1 (by decide))
          · split at h
            · next b1 b2 b3 eb1 eb2 eb3 =>
              obtain ⟨g, h8⟩ := bif_o h
              cases h8
              simp only [Bool.and_eq_true] at g
              obtain ⟨⟨g0, g1, g2⟩, ⟨g3, g4, g5⟩, g6, g7, g8, g9⟩ := g
              obtain rfl := Nat.eq_of_beq_eq_true g0
              have ex := neq_ok g1
              have ez := neq_ok g2
              have w1 := neq_ok g3
              have w2 := neq_ok g4
              have w3 := neq_ok g5
              subst ex ez w1 w2 w3
              have v1 := pv (nb_sb nb_K (nb_sc nlm)) g6
              have v4 := pv nlm g7
              have v2 := pv (nb_sb nro nru) g8
              have v3 := pv nru g9
              rw [fvl_sb, fvl_K, fvl_sc, vlm2] at v1
              rw [vlm2] at v4
              rw [fvl_sb, vro, vru] at v2
              rw [vru] at v3
              rw [fvl_ad, fvl_K, vlm2] at hk
              obtain ⟨-, -, -, d1⟩ := hP _ (plk_mem eb1)
              obtain ⟨-, -, -, d2⟩ := hP _ (plk_mem eb2)
              obtain ⟨-, -, -, d3⟩ := hP _ (plk_mem eb3)
              dsimp only at d1 d2 d3
              have hR : nv I 94 35 ≤ nv I 94 52 := by unfold nv; unfold zv at v2 v3; omega
              have hl : (fvl rho (nad (nsc 130 x) lm)).toNat = 130 * nv I 94 52 + nv I 125 (nv I 94 52) := by
                rw [fvl_ad, fvl_sc, vro, vlm2]
                unfold nv at v4 ⊢
                unfold zv at v2 v3 v4 ⊢
                omega
              refine ⟨e1_g hQ.1 (by decide) (fun e => hQ.2.1 e.symm) (fun e => absurd e.1 (by decide)) (fun e he => by cases he) h1, ?_⟩
              show e2 (up2 I 125 (fvl rho x).toNat k)
              refine e2_line (l := (fvl rho (nad (nsc 130 x) lm)).toNat) hR hl ?_ ?_ ?_ ?_ (up2_row (by decide)) (fun q' _ h => up2_row h) (fun k' hk' => up2_ne (fun e => hk' (by rw [e.2, elm2]))) ?_ h2
              · unfold zv at v1 v4; unfold nv at v1 v4 ⊢; omega
              · unfold nv; rw [d1, va2]; rfl
              · unfold nv; rw [d2, va3]; rfl
              · unfold nv; rw [d3, vla]; rfl
              · rw [elm2]
                unfold nv at hk v4 ⊢
                unfold zv at hk v4
                rw [up2_eq, hk]
                omega
            · cases h
          · cases h
        · cases h
    · cases h
  · cases h
