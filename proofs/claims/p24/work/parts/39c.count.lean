/-! ===== a count of our own (men who are here), for the loop of fill of the model ===== -/
theorem Tc.imp {j d mc ms : Nat} {av : List Value} {w : mW} {Q Q' : Option Value → mW → Prop} (h : Tc j d mc ms av w Q) (hQ : ∀ r w', Q r w' → Q' r w') : Tc j d mc ms av w Q' := by
  intro M hM l D base xa cA p e ha hc hk s m args below hfr hS hP hK
  obtain ⟨n, o, h1, h2, h3, ⟨r, w', cA', hq, ho, hH⟩, h4⟩ := h M hM l D base xa cA p e ha hc hk s m args below hfr hS hP hK
  exact ⟨n, o, h1, h2, h3, ⟨r, w', cA', hQ r w' hq, ho, hH⟩, h4⟩
theorem Tc.gh {j d mc ms : Nat} {av : List Value} {sh : List mE} {I : Nat → Nat → Int32} {L : Nat → Nat → Int64} {R : Nat → Nat → Option Nat} {Q : Option Value → mW → Prop} {q g c : Nat} {x : Int32} (hq : sh[q]? = some (.inr c)) (hg : (flds c).length ≤ g) (h : Tc j d mc ms av (sh, up2 I q g x, L, R) Q) : Tc j d mc ms av (sh, I, L, R) Q := by
  intro M hM l D base xa cA p e ha hc hk s m args below hfr hS hP hK
  exact h M hM l D base xa cA p e ha hc hk s m args below hfr hS ⟨hP.1, HR_gh hq hg hP.2.1, hP.2.2⟩ hK
def cntN (f : Nat → Int32) : Nat → Nat
  | 0 => 0
  | n + 1 => cntN f n + (if f n = 0 then 1 else 0)
theorem cntN_le {f : Nat → Int32} : ∀ n, cntN f n ≤ n
  | 0 => Nat.le_refl _
  | n + 1 => by
    have := cntN_le (f := f) n
    unfold cntN
    split <;> omega
theorem cntN_far {f g : Nat → Int32} : ∀ {n : Nat}, (∀ k, k < n → f k = g k) → cntN f n = cntN g n
  | 0, _ => rfl
  | n + 1, h => by
    unfold cntN
    rw [cntN_far (n := n) (fun k hk => h k (by omega)), h n (by omega)]
theorem cntN_put {f g : Nat → Int32} {x : Nat} (h0 : f x = 0) (h1 : ¬ g x = 0) (hs : ∀ k, ¬ k = x → g k = f k) : ∀ {n : Nat}, x < n → cntN g n + 1 = cntN f n
  | 0, h => by omega
  | n + 1, h => by
    unfold cntN
    by_cases c : x = n
    · subst c
      rw [if_neg h1, if_pos h0, cntN_far (f := g) (g := f) (fun k hk => hs k (by omega))]
    · have := cntN_put h0 h1 hs (n := n) (by omega)
      rw [hs n (by omega)]
      omega
def e6 (I : Nat → Nat → Int32) : Prop := (I 94 208).toInt = cntN (I 107) 200
def eC (E : mW → Prop) (w : mW) : Prop := E w ∧ e6 w.2.1
def FEc (FE : Nat → Bool ⊕ List Nat) (q : Nat) : Bool ⊕ List Nat := bif Nat.beq q 107 then .inl true else (bif Nat.beq q 94 then (match FE 94 with
  | .inl b => .inl true
  | .inr l => .inr (208 :: l)) else FE q)
theorem e6_far {I I' : Nat → Nat → Int32} (h1 : I' 94 208 = I 94 208) (h2 : ∀ k, I' 107 k = I 107 k) (h : e6 I) : e6 I' := by
  unfold e6 at h ⊢
  rw [h1, h]
  exact congrArg (fun n : Nat => (n : Int)) (cntN_far (n := 200) (fun k _ => (h2 k).symm))
theorem eC_put {FE : Nat → Bool ⊕ List Nat} {E : mW → Prop} (hE : EOK FE E) : EOK (FEc FE) (eC E) := by
  refine ⟨fun sh I L R q k x hf h => ?_, fun sh I L L' R h => ⟨hE.2 _ _ _ _ _ h.1, h.2⟩⟩
  unfold FEc at hf
  cases c : Nat.beq q 107 with
  | true => rw [c] at hf; cases hf
  | false =>
    rw [c] at hf
    have hq : ¬ q = 107 := fun e => by rw [e] at c; cases c
    simp only [cond_false] at hf
    cases c2 : Nat.beq q 94 with
    | true =>
      rw [c2] at hf
      simp only [cond_true] at hf
      have e := Nat.eq_of_beq_eq_true c2
      subst e
      split at hf
      · cases hf
      · next l hl =>
        have hf2 : feP (.inr l) k = false ∧ ¬ k = 208 := by
          unfold feP at hf ⊢
          simp only [List.any_cons, Bool.or_eq_false_iff] at hf
          exact ⟨hf.2, fun e => by rw [e] at hf; exact absurd hf.1 (by decide)⟩
        refine ⟨hE.1 _ _ _ _ _ _ _ (by rw [hl]; exact hf2.1) h.1, e6_far (I := I) (show up2 I 94 k x 94 208 = I 94 208 from up2_ne (fun e => hf2.2 e.2.symm)) (fun k' => show up2 I 94 k x 107 k' = I 107 k' from up2_ne (fun e => by cases e.1)) h.2⟩
    | false =>
      rw [c2] at hf
      have hq2 : ¬ q = 94 := fun e => by rw [e] at c2; cases c2
      exact ⟨hE.1 _ _ _ _ _ _ _ hf h.1, e6_far (up2_ne (fun e => hq2 e.1.symm)) (fun k => up2_ne (fun e => hq e.1.symm)) h.2⟩
def cV (V : aW) : aW := (V.1, V.2.1, V.2.2.1, FEc V.2.2.2.1, V.2.2.2.2)
def noC (md : aM) : Bool := md.all (fun e => !(Nat.beq e.1 107)) && !(inm md 94 208)
theorem noC_ok {md : aM} (h : noC md = true) : inm md 94 208 = false ∧ ∀ k, inm md 107 k = false := by
  unfold noC at h
  rw [Bool.and_eq_true, List.all_eq_true] at h
  refine ⟨by simpa using h.2, fun k => ?_⟩
  unfold inm
  rw [List.any_eq_false]
  intro e he q
  have := h.1 e he
  rw [Bool.and_eq_true] at q
  rw [q.1] at this
  cases this
theorem Kc_cnt {V : aW} {E : mW → Prop} {a : Nat} {k : aK} (h : Kc (mkT V []) E a k) (hm : noC k.2.2.2.1 = true) : Kc (mkT (cV V) []) (eC E) a k := by
  intro av w hw harg hpre hf
  obtain ⟨m1, m2⟩ := noC_ok hm
  refine Tc.imp (h av w ⟨hw.1, hw.2.1, hw.2.2.1, hw.2.2.2.1⟩ harg hpre hf) (fun r w' hQ => ?_)
  obtain ⟨f1, f2, f3, f4, f5⟩ := hQ
  exact ⟨f1, ⟨f2.1, f2.2.1, f2.2.2.1, f2.2.2.2, e6_far (f3 _ _ m1) (fun k => f3 _ _ (m2 k)) hw.2.2.2.2⟩, f3, f4, f5⟩
theorem Kc_unc {V : aW} {E : mW → Prop} {a dd : Nat} {ks : List aA} {res : Option aA} {md : aM} (h : Kc (mkT (cV V) []) (eC E) a (dd, ks, res, md, [(2147483647, [((1, 94, 208), 1)])], [])) (hS : V.1 94 = some (.inr 12)) (hgh : ∀ sh I L R x, E (sh, I, L, R) → E (sh, up2 I 94 208 x, L, R)) (hr : (rg (mkT V []) 94 208).1 ≤ lo32 ∧ hi32 ≤ (rg (mkT V []) 94 208).2) (hin : inm md 94 208 = true) : Kc (mkT V []) E a (dd, ks, res, md, [], []) := by
  intro av w hw harg _ hf
  obtain ⟨sh, I, L, R⟩ := w
  have h94 : sh[94]? = some (.inr 12) := hw.1 _ _ hS
  have hle := cntN_le (f := I 107) 200
  have ec : (Int32.ofInt (cntN (I 107) 200 : Int)).toInt = (cntN (I 107) 200 : Int) := ofI (by unfold lo32; omega) (by unfold hi32; omega)
  have e208 : up2 I 94 208 (Int32.ofInt (cntN (I 107) 200 : Int)) 94 208 = Int32.ofInt (cntN (I 107) 200 : Int) := by
    unfold up2
    rw [if_pos rfl, if_pos rfl]
  have e107 : ∀ k, up2 I 94 208 (Int32.ofInt (cntN (I 107) 200 : Int)) 107 k = I 107 k := fun k => up2_ne (fun e => absurd e.1 (by decide))
  refine Tc.gh (q := 94) (g := 208) (x := Int32.ofInt (cntN (I 107) 200 : Int)) h94 (by decide) ?_
  refine Tc.imp (h av (sh, up2 I 94 208 (Int32.ofInt (cntN (I 107) 200 : Int)), L, R) ⟨hw.1, hw.2.1, fun q k => ?_, hgh _ _ _ _ _ hw.2.2.2, ?_⟩ harg ?_ (fresh_gh h94 hf)) (fun r w' hQ => ?_)
  · by_cases c : q = 94 ∧ k = 208
    · obtain ⟨rfl, rfl⟩ := c
      have hb := i32b (up2 I 94 208 (Int32.ofInt (cntN (I 107) 200 : Int)) 94 208)
      exact ⟨Int.le_trans hr.1 hb.1, Int.le_trans hb.2 hr.2⟩
    · have e : up2 I 94 208 (Int32.ofInt (cntN (I 107) 200 : Int)) q k = I q k := up2_ne c
      dsimp only
      rw [e]
      exact hw.2.2.1 q k
  · show (up2 I 94 208 (Int32.ofInt (cntN (I 107) 200 : Int)) 94 208).toInt = cntN (up2 I 94 208 (Int32.ofInt (cntN (I 107) 200 : Int)) 107) 200
    rw [e208, ec]
    exact congrArg (fun n : Nat => (n : Int)) (cntN_far (n := 200) (fun k _ => (e107 k).symm))
  · intro q hq
    rcases List.mem_singleton.mp hq with rfl
    show 0 ≤ (0 + 1 * (up2 I 94 208 (Int32.ofInt (cntN (I 107) 200 : Int)) 94 208).toInt) + 2147483647
    rw [e208, ec]
    omega
  · obtain ⟨f1, f2, f3, f4, f5⟩ := hQ
    refine ⟨f1, ⟨f2.1, f2.2.1, f2.2.2.1, f2.2.2.2.1⟩, fun q k hk => ?_, f4, fun q hq => by cases hq⟩
    have hne : ¬ (q = 94 ∧ k = 208) := by
      rintro ⟨rfl, rfl⟩
      rw [hin] at hk
      cases hk
    exact (f3 q k hk).trans (up2_ne hne)
noncomputable def cchk (A : aS) : Option (List (Nat × aI)) := bif Nat.beq A.1.1 319 && Nat.beq A.1.2.1 6 then (match stOf A, plk A.2.2.2.1 94 (nK 208) with
  | some (q, x, z), some g => (match plk A.2.2.2.1 107 x with
    | some y => bif Nat.beq q 107 && (inx A.2.2.1 A.2.2.2.2.1 x 200 && (btw A.2.2.1 A.2.2.2.2.1 y 0 0 && (neq z (nK z.1) && !(ieq z.1 0)))) then some [(208, nsb g (nK 1))] else none
    | none => none)
  | _, _ => none) else none
theorem cchk_ok {T : aT} {FE : Nat → Bool ⊕ List Nat} {E : mW → Prop} (hE : EOK FE E) (hF1 : ∀ k, feP (FE 107) k = false) (hF2 : feP (FE 94) 208 = false) : ∀ A gs q x z, cchk A = some gs → stOf A = some (q, x, z) → ∀ (rho : Nat → Int) (sh : List mE) (I : Nat → Nat → Int32) (L : Nat → Nat → Int64) (R : Nat → Nat → Option Nat) (k : Int32), bOK A.2.2.1 rho → cOK A.2.2.1.1 rho A.2.2.2.2.1 → pOK A.2.2.1.1 rho A.2.2.2.1 I → wOK T (eC E) (sh, I, L, R) → nb A.2.2.1.1 x → nb A.2.2.1.1 z → 0 ≤ fvl rho x → k.toInt = fvl rho z → (∀ e ∈ gs, nb A.2.2.1.1 e.2 ∧ lo32 ≤ fvl rho e.2 ∧ fvl rho e.2 ≤ hi32) → eC E (sh, gI rho gs (up2 I q (fvl rho x).toNat k), L, R) := by
  intro A gs q x z h hst rho sh I L R k hB hF hP hw hx hz hx0 hk hgs
  unfold cchk at h
  obtain ⟨-, h⟩ := bif_o h
  rw [hst] at h
  split at h
  · next q' x' z' g hs hg =>
    cases hs
    split at h
    · next y hy =>
      obtain ⟨c, h⟩ := bif_o h
      cases h
      simp only [Bool.and_eq_true] at c
      obtain ⟨c1, c2, c3, c4, c5⟩ := c
      have e1 := Nat.eq_of_beq_eq_true c1
      subst e1
      obtain ⟨a1, a2, a3, a4⟩ := hP _ (plk_mem hy)
      obtain ⟨g1, g2⟩ := plk_K (k := 208) hP hg
      have hy2 : 0 ≤ fvl rho y ∧ fvl rho y ≤ 0 := btw_ok hB hF a2 c3
      have a4 : (I 107 (fvl rho x).toNat).toInt = fvl rho y := a4
      obtain ⟨s1, s2, s3⟩ := hgs _ List.mem_cons_self
      have ez : fvl rho z = z.1 := by
        rw [neq_ok c4, fvl_K]
        rfl
      have ez0 : ¬ z.1 = 0 := fun e => by
        rw [e] at c5
        exact absurd c5 (by decide)
      have hxi : (fvl rho x).toNat < 200 := by
        unfold inx at c2
        rw [Bool.and_eq_true] at c2
        have q2 := prv_ok hB hF (nb_sb nb_K hx) c2.2
        rw [fvl_sb, fvl_K] at q2
        omega
      have hE1 : E (sh, up2 (up2 I 107 (fvl rho x).toNat k) 94 208 (Int32.ofInt (fvl rho (nsb g (nK 1)))), L, R) := hE.1 _ _ _ _ _ _ _ hF2 (hE.1 _ _ _ _ _ _ _ (hF1 _) hw.2.2.2.1)
      refine ⟨hE1, ?_⟩
      have ev : (Int32.ofInt (fvl rho (nsb g (nK 1)))).toInt = (I 94 208).toInt - 1 := (ofI s2 s3).trans (by
        show fvl rho (nsb g (nK 1)) = _
        rw [fvl_sb, fvl_K, g2])
      show (up2 (up2 I 107 (fvl rho x).toNat k) 94 208 (Int32.ofInt (fvl rho (nsb g (nK 1)))) 94 208).toInt = cntN (up2 (up2 I 107 (fvl rho x).toNat k) 94 208 (Int32.ofInt (fvl rho (nsb g (nK 1)))) 107) 200
      generalize Int32.ofInt (fvl rho (nsb g (nK 1))) = v at ev ⊢
      have u1 : up2 (up2 I 107 (fvl rho x).toNat k) 94 208 v 94 208 = v := by
        show (if (94 : Nat) = 94 then (if (208 : Nat) = 208 then _ else _) else _) = _
        rw [if_pos rfl, if_pos rfl]
      rw [u1, ev]
      have h6 : (I 94 208).toInt = cntN (I 107) 200 := hw.2.2.2.2
      have hc := cntN_put (f := I 107) (g := up2 (up2 I 107 (fvl rho x).toNat k) 94 208 v 107) (x := (fvl rho x).toNat) (n := 200) ?_ ?_ ?_ hxi
      · omega
      · have h0 : (I 107 (fvl rho x).toNat).toInt = 0 := by omega
        exact Int32.toInt_inj.mp h0
      · have u2 : up2 (up2 I 107 (fvl rho x).toNat k) 94 208 v 107 (fvl rho x).toNat = k := by
          rw [up2_ne (fun e => absurd e.1 (by decide))]
          show (if (107 : Nat) = 107 then (if (fvl rho x).toNat = (fvl rho x).toNat then _ else _) else _) = _
          rw [if_pos rfl, if_pos rfl]
        rw [u2]
        intro e
        rw [e] at hk
        have hz0 : (0 : Int32).toInt = 0 := rfl
        omega
      · intro k' hk'
        rw [up2_ne (fun e => absurd e.1 (by decide)), up2_ne (fun e => hk' e.2)]
    · cases h
  · cases h
def spZ (A : aS) : Option (List aS) := match A with
  | ((j, pc, ls, st), fs, B, P, F, G) => bif Nat.beq j 320 && Nat.beq pc 22 then (match plk P 94 (nK 208) with
    | some g => bif ile 0 (ivl B g).1 && ile (ivl B g).2 200 then none else some [((j, pc, ls, st), fs, rfF B [g, nsb (nK 200) g], P, F, G)]
    | none => none) else none
theorem spZ_ok {T : aT} {E : mW → Prop} {md : aM} {Z : aZ} {av : List Value} {I0 : Nat → Nat → Int32} {dd : Nat} {A : aS} {As : List aS} (h : spZ A = some As) : Snd T (eC E) md Z av I0 dd A As := by
  obtain ⟨⟨j, pc, ls, st⟩, fs, B, P, F, G⟩ := A
  intro rho C hS K
  obtain ⟨⟨j', pc', l, s⟩, gs, w⟩ := C
  obtain ⟨⟨e1, e2, hl, hs⟩, hfs, hB, hP, hF, hG, hw, hI⟩ := hS
  dsimp only at e1 e2 hl hs hfs hB hP hF hG hw hI K ⊢
  subst e1 e2
  unfold spZ at h
  dsimp only at h
  obtain ⟨-, h⟩ := bif_o h
  split at h
  · next g hg =>
    cases c : ile 0 (ivl B g).1 && ile (ivl B g).2 200 with
    | true => rw [c] at h; cases h
    | false =>
      rw [c] at h
      cases h
      obtain ⟨g1, g2⟩ := plk_K (k := 208) hP hg
      have h6 : (w.2.1 94 208).toInt = cntN (w.2.1 107) 200 := hw.2.2.2.2
      have hle := cntN_le (f := w.2.1 107) 200
      obtain ⟨hB2, en⟩ := rfF_ok (F := [g, nsb (nK 200) g]) hB (fun f hf => by
        rcases List.mem_cons.mp hf with rfl | hf
        · exact ⟨g1, by omega⟩
        · rcases List.mem_singleton.mp hf with rfl
          exact ⟨nb_sb nb_K g1, by rw [fvl_sb, fvl_K]; omega⟩)
      refine K _ (List.mem_singleton_self _) rho ((j, pc, l, s), gs, w) (agr.refl _ _) ?_
      unfold SAT
      dsimp only
      rw [en]
      exact ⟨⟨rfl, rfl, hl, hs⟩, hfs, hB2, hP, hF, hG, hw, hI⟩
  · cases h
/-! a certificate in pieces -/
theorem all_app {α : Type} {f : α → Bool} {a b : List α} (h1 : a.all f = true) (h2 : b.all f = true) : (a ++ b).all f = true := by
  rw [List.all_append, h1, h2]
  rfl
theorem allT_nil {f : aC → Bool} : ([] : List (Nat × List aC)).all (fun e => e.2.all f) = true := rfl
theorem allT_cons {f : aC → Bool} {p : Nat} {l : List aC} {t : List (Nat × List aC)} (h1 : l.all f = true) (h2 : t.all (fun e => e.2.all f) = true) : ((p, l) :: t).all (fun e => e.2.all f) = true := by
  rw [List.all_cons, h2]
  show (l.all f && true) = true
  rw [h1]
  rfl
theorem certB_of {stp : aS → Option (List aS)} {tab : List (Nat × List aC)} {len fuel : Nat} {A : Option aS} (h1 : tab.all (fun e => e.2.all (cok stp (csOf tab) len fuel)) = true) (h2 : (match A with
  | some A => expl stp (csOf tab) (rk0 len) fuel A
  | none => false) = true) : certB stp tab len fuel A = true := by
  unfold certB
  rw [h1]
  exact h2
