/-! ===== calls, returns; every abstract step is sound ===== -/
section SOUND
variable {T : aT} {E : mW → Prop} {md : aM} {Z : aZ} {av : List Value} {I0 : Nat → Nat → Int32} {dd : Nat}
def gvOf (av : List Value) (I0 : Nat → Nat → Int32) (Z : aZ) : List Int := av.map iof ++ Z.2.2.2.map (fun e => (I0 e.1 e.2).toInt)
/-- what follows from A goes on among As -/
def Snd (T : aT) (E : mW → Prop) (md : aM) (Z : aZ) (av : List Value) (I0 : Nat → Nat → Int32) (dd : Nat) (A : aS) (As : List aS) : Prop :=
  ∀ (rho : Nat → Int) (C : mC), SAT T E md I0 (gvOf av I0 Z) rho A C → (∀ A' ∈ As, ∀ (rho' : Nat → Int) (C' : mC), agr A.2.2.1.1 rho rho' → SAT T E md I0 (gvOf av I0 Z) rho' A' C' → XF none dd 0 0 (Qk T E md Z.1 Z.2.1 av I0) C'.1 C'.2.1 C'.2.2) → XF none dd 0 0 (Qk T E md Z.1 Z.2.1 av I0) C.1 C.2.1 C.2.2
theorem ackb_ok {ins : Instr} {Ma : mMt} {n : Nat} {rho : Nat → Int} {av : List aV} {s : List Value} {w : mW} (hw : wOK T E w) (hs : sOK n rho av s) (h : ackb T ins Ma av = true) : ckb ins Ma s w = true := by
  unfold ackb at h
  split at h
  · exact h
  · split at h
    · next q r =>
      match s, hs with
      | v :: s, hs =>
        obtain rfl : v = .ref q := hs.1
        rw [Bool.and_eq_true] at h
        simp only [ckb, Bool.and_eq_true, decide_eq_true_eq]
        refine ⟨h.1, ?_⟩
        have h2 := h.2
        split at h2
        · next c hc =>
          rw [hw.1 q _ hc, Nat.eq_of_beq_eq_true h2]
        · cases h2
    · cases h
  · cases h
theorem msub_ok {k md : aM} (h : msub k md = true) {q i : Nat} (hi : inm k q i = true) : inm md q i = true := by
  unfold inm at hi ⊢
  obtain ⟨e, he, h2⟩ := List.any_eq_true.mp hi
  have h3 := List.all_eq_true.mp h e he
  obtain ⟨f, hf, h4⟩ := List.any_eq_true.mp h3
  refine List.any_eq_true.mpr ⟨f, hf, ?_⟩
  rw [Bool.and_eq_true] at h2 h4 ⊢
  have e1 := Nat.eq_of_beq_eq_true h2.1
  have e2 := Nat.eq_of_beq_eq_true h4.1
  refine ⟨by rw [e2, e1]; exact Nat.beq_refl _, ?_⟩
  obtain ⟨a, b⟩ := e
  obtain ⟨c, d⟩ := f
  dsimp only at h2 h4 ⊢
  cases d with
  | none => rfl
  | some d =>
    cases b with
    | none => exact absurd h4.2 (by simp)
    | some b =>
      dsimp only at h2 h4 ⊢
      rw [Nat.eq_of_beq_eq_true h4.2]
      exact h2.2
theorem sameI_trans {k md : aM} {I0 I I' : Nat → Nat → Int32} (h : msub k md = true) (h1 : sameI md I0 I) (h2 : sameI k I I') : sameI md I0 I' := by
  intro q i hq
  have : inm k q i = false := by
    cases c : inm k q i with
    | false => rfl
    | true => rw [msub_ok h c] at hq; cases hq
  rw [h2 q i this]
  exact h1 q i hq
theorem pmd_ok {k : aM} {n : Nat} {rho : Nat → Int} {P : aP} {I I' : Nat → Nat → Int32} (hP : pOK n rho P I) (h : sameI k I I') : pOK n rho (pmd k P) I' := by
  intro e he
  obtain ⟨hm, hf⟩ := List.mem_filter.mp he
  obtain ⟨a1, a2, a3, a4⟩ := hP e hm
  refine ⟨a1, a2, a3, ?_⟩
  have : inm k e.1.1 (fvl rho e.1.2).toNat = false := by
    split at hf
    · next e2 =>
      have e0 : fvl rho e.1.2 = e.1.2.1 := by unfold fvl; rw [e2]; simp only [fev]; omega
      rw [e0]
      rw [Bool.not_eq_true'] at hf
      exact hf
    · rw [Bool.not_eq_true'] at hf
      cases c2 : inm k e.1.1 (fvl rho e.1.2).toNat with
      | false => rfl
      | true =>
        unfold inm at c2
        obtain ⟨f, hf2, h4⟩ := List.any_eq_true.mp c2
        rw [Bool.and_eq_true] at h4
        have h5 : k.any (fun f => Nat.beq f.1 e.1.1) = true := List.any_eq_true.mpr ⟨f, hf2, h4.1⟩
        rw [h5] at hf
        cases hf
  rw [h _ _ this]
  exact a4
theorem ares_ok {B B' : aB} {rho : Nat → Int} {r : Option aA} {rest st' : List aV} {s : List Value} {o : Option Value} {ro : Option aI} (hB : bOK B rho) (hs : sOK B.1 rho rest s) (hr : resV r o) (h : ares B r rest = some (st', B', ro)) : ∃ rho', agr B.1 rho rho' ∧ bOK B' rho' ∧ B.1 ≤ B'.1 ∧ sOK B'.1 rho' st' (o.toList ++ s) ∧ ∀ a, ro = some a → nb B'.1 a ∧ fvl rho' a = (o.map iof).getD 0 := by
  unfold ares at h
  split at h
  · cases h
    obtain rfl : o = none := hr
    exact ⟨rho, agr.refl _ _, hB, Nat.le_refl _, hs, fun a ha => by cases ha⟩
  · next x =>
    obtain ⟨i, rfl, h1, h2⟩ := hr
    have := mkv_ok (B := B) (rho := rho) hB h1 h2
    split at h
    next z B2 e =>
    cases h
    rw [e] at this
    obtain ⟨rho', h1, h2, h3, h4, h5⟩ := this
    refine ⟨rho', h1, h2, h3, ⟨⟨h4, _, rfl, h5⟩, hs.mono h3 h1⟩, fun a ha => ?_⟩
    cases ha
    exact ⟨h4, h5.symm⟩
  · cases h
    obtain ⟨l, rfl⟩ := hr
    exact ⟨rho, agr.refl _ _, hB, Nat.le_refl _, ⟨⟨_, rfl⟩, hs⟩, fun a ha => by cases ha⟩
  · cases h
theorem avi_ok {n : Nat} {rho : Nat → Int} : ∀ {as : List aV} {vs : List Value}, sOK n rho as vs → ∀ (i : Nat) (a : aI), ((as.map avi)[i]?).getD none = some a → nb n a ∧ fvl rho a = ((vs[i]?).map iof).getD 0
  | [], [], _, i, a, h => by simp at h
  | b :: as, v :: vs, hs, 0, a, h => by
    have h : avi b = some a := h
    unfold avi at h
    split at h
    · next x =>
      cases h
      obtain ⟨h1, i, rfl, h2⟩ := hs.1
      exact ⟨h1, h2.symm⟩
    · cases h
  | b :: as, v :: vs, hs, i + 1, a, h => avi_ok hs.2 i a h
  | [], _ :: _, h, _, _, _ => h.elim
  | _ :: _, [], h, _, _, _ => h.elim
/-- a contract is used -/
theorem ausek_ok {nf : Nat} {k : aK} {as rest st' : List aV} {vs s : List Value} {B B' : aB} {P P' : aP} {F F' : List aI} {rho : Nat → Int} {w : mW} (hB : bOK B rho) (hF : cOK B.1 rho F) (hP : pOK B.1 rho P w.2.1) (hw : wOK T E w) (hI : sameI md I0 w.2.1) (hsa : sOK B.1 rho as vs) (hsr : sOK B.1 rho rest s) (h : ausek T md dd nf k as rest B P F = some (st', B', P', F')) : k.1 + 1 + nf ≤ dd ∧ qsV vs w.2.1 w.2.1 none k.2.2.2.2.1 ∧ ∀ (r : Option Value) (w' : mW), Qk T E k.2.2.2.1 k.2.2.1 k.2.2.2.2.2 vs w.2.1 r w' → ∃ rho', agr B.1 rho rho' ∧ bOK B' rho' ∧ B.1 ≤ B'.1 ∧ pOK B'.1 rho' P' w'.2.1 ∧ cOK B'.1 rho' F' ∧ sOK B'.1 rho' st' (r.toList ++ s) ∧ wOK T E w' ∧ sameI md I0 w'.2.1 := by
  unfold ausek at h
  obtain ⟨q, h⟩ := bif_o h
  rw [Bool.and_eq_true] at q
  have q1 := Nat.le_of_ble_eq_true q.1
  split at h
  next B1 P1 e1 =>
  obtain ⟨rho1, a1, a2, a3, a4⟩ := ldP_ok hw.2.2.1 hB hP e1
  split at h
  · next pre hpre =>
    obtain ⟨g, h⟩ := bif_o h
    have hF1 := hF.mono a3 a1
    have hq := qas_ok (r := none) (avi_ok (hsa.mono a3 a1)) a4 a4 (fun a ha => by cases ha) hpre
    have hprec : qsV vs w.2.1 w.2.1 none k.2.2.2.2.1 := hq.2.mp (fun a ha => prv_ok a2 hF1 (hq.1 a ha) (List.all_eq_true.mp g a ha))
    refine ⟨q1, hprec, fun r w' hQ => ?_⟩
    obtain ⟨f1, f2, f3, f4, f5⟩ := hQ
    split at h
    · next st2 B2 ro hr =>
      obtain ⟨rho2, b1, b2, b3, b4, b5⟩ := ares_ok a2 (hsr.mono a3 a1) f4 hr
      split at h
      next B3 P3 e3 =>
      obtain ⟨rho3, c1, c2, c3, c4⟩ := ldP_ok f2.2.2.1 b2 ((pmd_ok a4 f3).mono b3 b1) e3
      split at h
      · next post hpost =>
        cases h
        have ag : agr B.1 rho rho3 := (a1.trans b1 a3).trans c1 (by omega)
        have le3 : B.1 ≤ B3.1 := by omega
        have ag13 : agr B1.1 rho1 rho3 := b1.trans c1 b3
        have le13 : B1.1 ≤ B3.1 := by omega
        have hq2 := qas_ok (r := r) (avi_ok (hsa.mono le3 ag)) (a4.mono le13 ag13) c4 (fun a ha => by
          obtain ⟨z1, z2⟩ := b5 a ha
          exact ⟨z1.mono c3, by rw [fvl_agr c1 z1]; exact z2⟩) hpost
        have hpp := hq2.2.mpr f5
        obtain ⟨u1, u2⟩ := rfF_ok (F := post) c2 (fun f hf => ⟨hq2.1 f hf, hpp f hf⟩)
        rw [u2]
        refine ⟨rho3, ag, u1, le3, c4, fun f hf => ?_, b4.mono c3 c1, f2, sameI_trans q.2 hI f3⟩
        rcases List.mem_append.mp hf with hf | hf
        · exact ⟨hq2.1 f hf, hpp f hf⟩
        · exact hF.mono le3 ag f hf
      · cases h
    · cases h
  · cases h
theorem acl_ok {j pc : Nat} {ls : List (Nat × aV)} {st : List aV} {fs : List aF} {B : aB} {P : aP} {F G : List aI} {ins : Instr} {a b len pc0 h : Nat} {v : Int} {As : List aS} {M : mMt} (hdd : 41 ≤ dd) (hM : mt j = some M) (he : mcode j pc = some (pc0, ins, len, a, b, v, h))
    (hK : ∀ a k, k ∈ T.2.2.2.2.1 a → Kc T E a k) (hc : acl T md dd j pc ls st fs B P F G ins a b = some As) : Snd T E md Z av I0 dd ((j, pc, ls, st), fs, B, P, F, G) As := by
  intro rho C hS K
  obtain ⟨⟨j', pc', l, s⟩, gs, w⟩ := C
  obtain ⟨⟨e1, e2, hl, hs⟩, hfs, hB, hP, hF, hG, hw, hI⟩ := hS
  dsimp only at e1 e2 hl hs hfs hB hP hF hG hw hI K ⊢
  subst e1 e2
  unfold acl at hc
  split at hc
  · cases hc
  · next Ma hMa =>
    obtain ⟨g, hc⟩ := bif_o hc
    simp only [Bool.and_eq_true, Bool.not_eq_true'] at g
    obtain ⟨g1, g2, g3, g4, g5⟩ := g
    have ha : a < 371 := Nat.le_of_ble_eq_true g1
    have hb9 : ¬ b = 9 := fun e => by rw [e] at g2; cases g2
    have hn := Nat.le_of_ble_eq_true g3
    have hcat := Nat.le_of_ble_eq_true g4
    have hsa := (hs.take Ma.2.2.2.2.2.2.1).rev
    have hsr := hs.drop Ma.2.2.2.2.2.2.1
    have hkb := ackb_ok hw hsa g5
    have hst : s = ((s.take Ma.2.2.2.2.2.2.1).reverse).reverse ++ s.drop Ma.2.2.2.2.2.2.1 := by rw [List.reverse_reverse, List.take_append_drop]
    have hlen : ((s.take Ma.2.2.2.2.2.2.1).reverse).length = Ma.2.2.2.2.2.2.1 := by
      rw [List.length_reverse, List.length_take, ← hs.len]
      omega
    have hcs : ((s.drop Ma.2.2.2.2.2.2.1).map fun v => v.category).sum ≤ 8 := by rw [hsr.cats]; exact hcat
    split at hc
    · obtain ⟨q, hc⟩ := bif_o hc
      cases hc
      rw [Bool.and_eq_true] at q
      have q1 := Nat.le_of_ble_eq_true q.1
      have q2 := Nat.le_of_ble_eq_true q.2
      have hfl := hfs.len
      refine XF.callI hdd (by omega) hM he hMa ha hb9 hkb hst hlen hcs (by rw [lg_sl_cat, hsa.cats]; exact q2) ?_
      refine K _ (List.mem_singleton_self _) rho ((a, 0, lv_args 0 (s.take Ma.2.2.2.2.2.2.1).reverse, []), (j, pc + 3, l, s.drop Ma.2.2.2.2.2.2.1) :: gs, w) (agr.refl _ _) ?_
      exact ⟨⟨rfl, rfl, fun k a hm => (aarg_ok 0 hsa k a hm).2, trivial⟩, ⟨⟨rfl, rfl, hl, hsr⟩, hfs⟩, hB, hP, hF, hG, hw, hI⟩
    · next k0 ks hTk =>
      split at hc
      · next st' B' P' F' hr =>
        cases hc
        obtain ⟨k, hkm, hr⟩ := List.exists_of_findSome?_eq_some hr
        obtain ⟨hk1, hr⟩ := bif_o hr
        rw [← hTk] at hkm
        have harg := argB_ok hB hF hk1 hsa
        obtain ⟨u1, u2, u3⟩ := ausek_ok hB hF hP hw hI hsa hsr hr
        refine XF.callG (d' := k.1) (Qc := Qk T E k.2.2.2.1 k.2.2.1 k.2.2.2.2.2 (s.take Ma.2.2.2.2.2.2.1).reverse w.2.1) hM he hMa ha hb9 hkb hst hlen hcs (fun hf => hK a k hkm _ w hw harg u2 hf) (by rw [← hfs.len]; exact u1) (fun r w' hq => ?_)
        obtain ⟨rho', h1, h2, h3, h4, h5, h6, h7, h8⟩ := u3 r w' hq
        refine ⟨hq.1, ?_⟩
        refine K _ (List.mem_singleton_self _) rho' ((j, pc + 3, l, r.toList ++ s.drop Ma.2.2.2.2.2.2.1), gs, w') h1 ?_
        exact ⟨⟨rfl, rfl, hl.mono h3 h1, h6⟩, hfs.mono h3 h1, h2, h4, h5, hG.mono h3 h1, h7, h8⟩
      · cases hc
theorem resB_ok {B : aB} {F : List aI} {rho : Nat → Int} {st : List aV} {s : List Value} {r : Option aA} {o : Option Value} (hB : bOK B rho) (hF : cOK B.1 rho F) (hs : sOK B.1 rho st s) (ho : s = o.toList) (h : resB B F r st = true) : resV r o := by
  unfold resB at h
  split at h
  · match s, hs with
    | [], _ => cases o with
      | none => rfl
      | some v => cases ho
  · next k x =>
    match s, hs with
    | [u], hs =>
      obtain ⟨hx, i, rfl, hi⟩ := hs.1
      have hv := btw_ok hB hF hx h
      cases o with
      | none => cases ho
      | some v =>
        cases ho
        exact ⟨i, rfl, by omega, by omega⟩
  · match s, hs with
    | [u], hs =>
      obtain ⟨i, rfl⟩ := hs.1
      cases o with
      | none => cases ho
      | some v =>
        cases ho
        exact ⟨i, rfl⟩
  · cases h
theorem gold_ok {n : Nat} {rho : Nat → Int} {G : List aI} {gv : List Int} {I0 : Nat → Nat → Int32} (hG : gOK n rho G gv) : ∀ {l : List (Nat × Nat)} {i : Nat}, (∀ (j : Nat) (e : Nat × Nat), l[j]? = some e → gv[i + j]? = some ((I0 e.1 e.2).toInt)) → pOK n rho (gold G i l) I0
  | [], _, _ => fun e he => by cases he
  | e :: l, i, h => by
    have ih := gold_ok hG (I0 := I0) (l := l) (i := i + 1) (fun j e hj => by rw [show i + 1 + j = i + (j + 1) by omega]; exact h (j + 1) e hj)
    unfold gold
    split
    · next a ha =>
      intro f hf
      rcases List.mem_cons.mp hf with rfl | hf
      · have hv := h 0 e rfl
        have : ∀ {G : List aI} {gv : List Int} {i : Nat} {a : aI} {v : Int}, gOK n rho G gv → G[i]? = some a → gv[i]? = some v → nb n a ∧ fvl rho a = v := by
          intro G
          induction G with
          | nil => intro gv i a v _ h _; simp at h
          | cons b G ih =>
            intro gv i a v hg h1 h2
            match gv, hg with
            | w :: gv, hg =>
              cases i with
              | zero => cases h1; cases h2; exact hg.1
              | succ i => exact ih hg.2 h1 h2
        obtain ⟨q1, q2⟩ := this hG ha hv
        refine ⟨nb_K, q1, by rw [fvl_K]; omega, ?_⟩
        dsimp only
        rw [fvl_K, q2]
        rfl
      · exact ih f hf
    · exact ih
theorem gOK_at {n : Nat} {rho : Nat → Int} : ∀ {G : List aI} {gv : List Int} {i : Nat} {a : aI}, gOK n rho G gv → G[i]? = some a → ∃ v, gv[i]? = some v ∧ nb n a ∧ fvl rho a = v
  | [], _, i, a, _, h => by simp at h
  | b :: G, w :: gv, 0, a, hg, h => by cases h; exact ⟨w, rfl, hg.1⟩
  | b :: G, w :: gv, i + 1, a, hg, h => gOK_at (G := G) (gv := gv) (i := i) hg.2 h
  | _ :: _, [], _, _, hg, _ => hg.elim
theorem aend_ok {B : aB} {P : aP} {F G : List aI} {rho : Nat → Int} {st : List aV} {s : List Value} {o : Option Value} {w : mW} (hZ : Z.2.2.1 = av.length) (hB : bOK B rho) (hF : cOK B.1 rho F) (hP : pOK B.1 rho P w.2.1) (hG : gOK B.1 rho G (gvOf av I0 Z)) (hw : wOK T E w) (hs : sOK B.1 rho st s) (ho : s = o.toList) (h : aend T Z st B P F G = true) : resV Z.1 o ∧ qsV av I0 w.2.1 o Z.2.1 := by
  unfold aend at h
  rw [Bool.and_eq_true] at h
  refine ⟨resB_ok hB hF hs ho h.1, ?_⟩
  have h2 := h.2
  split at h2
  next B' P' e =>
  obtain ⟨rho', a1, a2, a3, a4⟩ := ldP_ok hw.2.2.1 hB hP e
  split at h2
  · next post hpost =>
    have hG' := hG.mono a3 a1
    have hgold := gold_ok (I0 := I0) (l := Z.2.2.2) (i := Z.2.2.1) hG' (fun j e hj => by
      unfold gvOf
      rw [hZ, List.getElem?_append_right (by rw [List.length_map]; omega), List.length_map, show av.length + j - av.length = j by omega, List.getElem?_map, hj]
      rfl)
    have hq := qas_ok (rho := rho') (av := av) (I0 := I0) (I := w.2.1) (r := o) (n := B'.1) (fun i a ha => ?_) hgold a4 (fun a ha => ?_) hpost
    · exact hq.2.mp (fun a ha => prv_ok a2 (hF.mono a3 a1) (hq.1 a ha) (List.all_eq_true.mp h2 a ha))
    · rw [List.getElem?_map] at ha
      cases hg : (G.take Z.2.2.1)[i]? with
      | none => rw [hg] at ha; simp at ha
      | some b =>
        rw [hg] at ha
        have hb : b = a := by simpa using ha
        subst hb
        rw [List.getElem?_take] at hg
        split at hg
        · next hlt =>
          obtain ⟨v, q1, q2, q3⟩ := gOK_at hG' hg
          refine ⟨q2, ?_⟩
          unfold gvOf at q1
          rw [List.getElem?_append_left (by rw [List.length_map]; omega), List.getElem?_map] at q1
          rw [q3, q1]
          rfl
        · cases hg
    · split at ha
      · next x =>
        cases ha
        match s, hs with
        | [u], hs =>
          obtain ⟨hx, i, rfl, hi⟩ := hs.1
          cases o with
          | none => cases ho
          | some v =>
            cases ho
            refine ⟨hx.mono a3, ?_⟩
            rw [fvl_agr a1 hx]
            exact hi.symm
      · cases ha
  · cases h2
theorem art_ok {j pc : Nat} {ls : List (Nat × aV)} {st : List aV} {fs : List aF} {B : aB} {P : aP} {F G : List aI} {ins : Instr} {a b len pc0 h : Nat} {v : Int} {As : List aS} {M : mMt} (hZ : Z.2.2.1 = av.length) (hM : mt j = some M) (he : mcode j pc = some (pc0, ins, len, a, b, v, h))
    (hc : art T M Z ins st fs B P F G = some As) : Snd T E md Z av I0 dd ((j, pc, ls, st), fs, B, P, F, G) As := by
  intro rho C hS K
  obtain ⟨⟨j', pc', l, s⟩, gs, w⟩ := C
  obtain ⟨⟨e1, e2, hl, hs⟩, hfs, hB, hP, hF, hG, hw, hI⟩ := hS
  dsimp only at e1 e2 hl hs hfs hB hP hF hG hw hI K ⊢
  subst e1 e2
  unfold art at hc
  obtain ⟨g, hc⟩ := bif_o hc
  have key : ∃ r : Option Value, s = r.toList ∧ rtb M ins r = true := by
    unfold artb at g
    split at g
    · match s, hs with
      | [], _ =>
        refine ⟨none, rfl, ?_⟩
        unfold rtb
        split at g
        · next e => rw [e]; rfl
        · cases g
    · next x =>
      match s, hs with
      | [u], hs =>
        obtain ⟨hx, i, rfl, hi⟩ := hs.1
        refine ⟨some (.int i), rfl, ?_⟩
        unfold rtb
        dsimp only
        split at g
        · next e => rw [e]
        · next e =>
          rw [e]
          have hv := btw_ok hB hF hx g
          have : i.toInt = 0 ∨ i.toInt = 1 := by omega
          dsimp only
          rcases this with q | q
          · rw [show i = 0 from Int32.toInt_inj.mp (by rw [q]; rfl)]; rfl
          · rw [show i = 1 from Int32.toInt_inj.mp (by rw [q]; rfl)]; rfl
        · cases g
    · match s, hs with
      | [u], hs =>
        obtain ⟨i, rfl⟩ := hs.1
        refine ⟨some (.long i), rfl, ?_⟩
        unfold rtb
        dsimp only
        split at g
        · next e => rw [e]; rfl
        · cases g
    · cases g
  obtain ⟨r, rfl, hr⟩ := key
  split at hc
  · next =>
    match gs, hfs with
    | [], _ =>
      obtain ⟨q, hc⟩ := bif_o hc
      obtain ⟨z1, z2⟩ := aend_ok hZ hB hF hP hG hw hs rfl q
      exact XF.fin r hM he hr (fun hf => ⟨hf, hw, hI, z1, z2⟩)
  · next jf pf lf sf fs' _ =>
    cases hc
    match gs, hfs with
    | (jg, pg, lg, sg) :: gs, hfs =>
      obtain ⟨⟨e1, e2, hlf, hsf⟩, hfs2⟩ := hfs
      dsimp only at e1 e2 hlf hsf
      subst e1 e2
      refine XF.retG hM he hr ?_
      exact K _ (List.mem_singleton_self _) rho ((jf, pf, lg, r.toList ++ sg), gs, w) (agr.refl _ _) ⟨⟨rfl, rfl, hlf, hs.append hsf⟩, hfs2, hB, hP, hF, hG, hw, hI⟩
set_option maxHeartbeats 2000000 in
theorem astep_ok (hE : EOK T.2.2.2.1 E) (hZ : Z.2.2.1 = av.length) (hdd : 41 ≤ dd) (hK : ∀ a k, k ∈ T.2.2.2.2.1 a → Kc T E a k) {A : aS} {As : List aS} (h : astep T md Z dd A = some As) : Snd T E md Z av I0 dd A As := by
  obtain ⟨⟨j, pc, ls, st⟩, fs, B, P, F, G⟩ := A
  cases hM : mt j with
  | none =>
    intro rho C hS _
    obtain ⟨⟨j', pc', l, s⟩, gs, w⟩ := C
    obtain rfl : j = j' := hS.1.1
    cases gs with
    | nil => unfold XF; intro _ M h; exact absurd (hM.symm.trans h) (by simp)
    | cons g gs => unfold XF; intro _ M h; exact absurd (hM.symm.trans h) (by simp)
  | some M =>
    unfold astep at h
    dsimp only at h
    split at h
    · cases h
    · next pc0 ins len a b v hh he =>
      -- a step of one of the families, to one state
      have one : ∀ (A' : aS) (hA : As = [A']), (∀ (rho : Nat → Int) (l : mL) (s : List Value) (w : mW), lOK B.1 rho ls l → sOK B.1 rho st s → bOK B rho → pOK B.1 rho P w.2.1 → cOK B.1 rho F → wOK T E w → sameI md I0 w.2.1 → ∃ (pc' : Nat) (l' : mL) (s' : List Value) (w' : mW) (rho' : Nat → Int), pst M none ins len a b v (pc, l, s, w) (pc', l', s', w') ∧ A'.1.1 = j ∧ A'.1.2.1 = pc' ∧ A'.2.1 = fs ∧ A'.2.2.2.2.1 = F ∧ A'.2.2.2.2.2 = G ∧ agr B.1 rho rho' ∧ B.1 ≤ A'.2.2.1.1 ∧ lOK A'.2.2.1.1 rho' A'.1.2.2.1 l' ∧ sOK A'.2.2.1.1 rho' A'.1.2.2.2 s' ∧ bOK A'.2.2.1 rho' ∧ pOK A'.2.2.1.1 rho' A'.2.2.2.1 w'.2.1 ∧ wOK T E w' ∧ sameI md I0 w'.2.1) → Snd T E md Z av I0 dd ((j, pc, ls, st), fs, B, P, F, G) As := by
        intro A' hA H rho C hS K
        subst hA
        obtain ⟨⟨j', pc', l, s⟩, gs, w⟩ := C
        obtain ⟨⟨e1, e2, hl, hs⟩, hfs, hB, hP, hF, hG, hw, hI⟩ := hS
        dsimp only at e1 e2 hl hs hfs hB hP hF hG hw hI K ⊢
        subst e1 e2
        obtain ⟨pc', l', s', w', rho', q1, q2, q3, q4, q4a, q4b, q5, q6, q7, q8, q9, q10, q11, q12⟩ := H rho l s w hl hs hB hP hF hw hI
        refine XF.fam hM he q1 ?_
        exact K A' (List.mem_singleton_self _) rho' ((j, pc', l', s'), gs, w') q5 ⟨⟨q2, q3, q7, q8⟩, by rw [q4]; exact hfs.mono q6 q5, q9, q10, by rw [q4a]; exact hF.mono q6 q5, by rw [q4b]; exact hG.mono q6 q5, q11, q12⟩
      split at h
      · next u hu =>
        cases h
        refine one _ rfl (fun rho l s w hl hs hB hP hF hw hI => ?_)
        obtain ⟨r, hr, hv⟩ := apsh_ok hl hu
        refine ⟨pc + len, l, r :: s, w, rho, ?_, rfl, rfl, rfl, rfl, rfl, agr.refl _ _, Nat.le_refl _, hl, ⟨hv, hs⟩, hB, hP, hw, hI⟩
        rcases hr with hr | hr
        · exact Or.inl ⟨r, hr, rfl⟩
        · exact Or.inr (Or.inr (Or.inr (Or.inr (Or.inl ⟨r, hr, rfl⟩))))
      · split at h
        · next i _ =>
          split at h
          · next st' B' P' hg =>
            cases h
            refine one _ rfl (fun rho l s w hl hs hB hP hF hw hI => ?_)
            obtain ⟨s', rho', h1, h2, h3, h4, h5, h6⟩ := agf_ok hw hB hP hs hg
            exact ⟨pc + 3, l, s', w, rho', Or.inr (Or.inr (Or.inr (Or.inr (Or.inr (Or.inr (Or.inr (Or.inl ⟨i, s', rfl, h1, rfl⟩))))))), rfl, rfl, rfl, rfl, rfl, h2, h4, hl.mono h4 h2, h6, h3, h5, hw, hI⟩
          · cases h
        · next i _ =>
          split at h
          · next st' P' hg =>
            cases h
            refine one _ rfl (fun rho l s w hl hs hB hP hF hw hI => ?_)
            obtain ⟨s', w', h1, h2, h3, h4, h5⟩ := apf_ok (ini := iniOf M) hF hE hw hB hP hI hs hg
            exact ⟨pc + 3, l, s', w', rho, Or.inr (Or.inr (Or.inr (Or.inr (Or.inr (Or.inr (Or.inr (Or.inr (Or.inl ⟨i, s', w', rfl, h1, rfl⟩)))))))), rfl, rfl, rfl, rfl, rfl, agr.refl _ _, Nat.le_refl _, hl, h5, hB, h3, h2, h4⟩
          · cases h
        · next i n _ =>
          rw [hM] at h
          split at h
          · next M' x e1 hx =>
            cases e1
            obtain ⟨g, h⟩ := bif_o h
            rw [Bool.and_eq_true] at g
            have g1 := Nat.le_of_ble_eq_true g.1
            have g2 := in32_iff.mp g.2
            unfold lo32 hi32 at g2
            split at h
            · next z B' hz =>
              cases h
              refine one _ rfl (fun rho l s w hl hs hB hP hF hw hI => ?_)
              obtain ⟨u, hu, hv⟩ := hl _ _ (alk_mem hx)
              obtain ⟨hx1, k, rfl, hk⟩ := hv
              have hn : (Int32.ofInt n).toInt = fvl rho (nK n) := by
                rw [Int32.toInt_ofInt_of_le (by omega) (by omega), fvl_K]
              obtain ⟨r, q1, rho', h1, h2, h3, h4, h5⟩ := abin_ok hB hF hx1 nb_K hk hn hz
              cases q1
              exact ⟨pc + 3, sto1 l i (.int (k + Int32.ofInt n)), s, w, rho', Or.inr (Or.inr (Or.inr (Or.inr (Or.inr (Or.inr (Or.inr (Or.inr (Or.inr ⟨i, n, k, rfl, hu, g1, rfl⟩)))))))), rfl, rfl, rfl, rfl, rfl, h1, h3, lOK_st1 (hl.mono h3 h1) ⟨h4, _, rfl, h5⟩, hs.mono h3 h1, h2, hP.mono h3 h1, hw, hI⟩
            · cases h
          · cases h
        · cases c : iscl ins with
          | true =>
            rw [c] at h
            exact acl_ok hdd hM he hK h
          | false =>
            rw [c] at h
            simp only [cond_false] at h
            split at h
            · next L hL =>
              cases h
              intro rho C hS K
              obtain ⟨⟨j', pc', l, s⟩, gs, w⟩ := C
              obtain ⟨⟨e1, e2, hl, hs⟩, hfs, hB, hP, hF, hG, hw, hI⟩ := hS
              dsimp only at e1 e2 hl hs hfs hB hP hF hG hw hI K ⊢
              subst e1 e2
              obtain ⟨pc', s', hb, e, hm, q1, q2, q3, q4, q5⟩ := abr_ok hB hF hs hL
              refine XF.fam hM he (pc' := pc') (ls' := l) (st' := s') (w' := w) (Or.inr (Or.inl ⟨pc', s', hb, rfl⟩)) ?_
              refine K _ (List.mem_map.mpr ⟨e, hm, rfl⟩) rho ((j, pc', l, s'), gs, w) (agr.refl _ _) ⟨⟨rfl, q1, ?_, ?_⟩, ?_, q3, ?_, ?_, ?_, hw, hI⟩
              · dsimp only; rw [q4]; exact hl
              · dsimp only; rw [q4]; exact q2
              · dsimp only; rw [q4]; exact hfs
              · dsimp only; rw [q4]; exact hP
              · dsimp only; rw [q4]; exact q5
              · dsimp only; rw [q4]; exact hG
            · split at h
              · next st' B' P' hg =>
                cases h
                refine one _ rfl (fun rho l s w hl hs hB hP hF hw hI => ?_)
                obtain ⟨s', rho', h1, h2, h3, h4, h5, h6⟩ := aal_ok hw hB hP hF hs hg
                exact ⟨pc + 1, l, s', w, rho', Or.inr (Or.inr (Or.inl ⟨s', h1, rfl⟩)), rfl, rfl, rfl, rfl, rfl, h2, h4, hl.mono h4 h2, h6, h3, h5, hw, hI⟩
              · split at h
                · next st' P' hg =>
                  cases h
                  refine one _ rfl (fun rho l s w hl hs hB hP hF hw hI => ?_)
                  obtain ⟨s', w', h1, h2, h3, h4, h5⟩ := aas_ok hF hE hw hB hP hI hs hg
                  exact ⟨pc + 1, l, s', w', rho, Or.inr (Or.inr (Or.inr (Or.inl ⟨s', w', h1, rfl⟩))), rfl, rfl, rfl, rfl, rfl, agr.refl _ _, Nat.le_refl _, hl, h5, hB, h3, h2, h4⟩
                · split at h
                  · next st' B' hg =>
                    cases h
                    refine one _ rfl (fun rho l s w hl hs hB hP hF hw hI => ?_)
                    obtain ⟨s', rho', h1, h2, h3, h4, h5⟩ := astk_ok hB hF hs hg
                    exact ⟨pc + 1, l, s', w, rho', Or.inr (Or.inr (Or.inr (Or.inr (Or.inr (Or.inl ⟨s', h1, rfl⟩))))), rfl, rfl, rfl, rfl, rfl, h2, h4, hl.mono h4 h2, h5, h3, hP.mono h4 h2, hw, hI⟩
                  · rw [hM] at h
                    dsimp only at h
                    cases c2 : isrt ins with
                    | true =>
                      rw [c2] at h
                      exact art_ok hZ hM he h
                    | false =>
                      rw [c2] at h
                      simp only [cond_false] at h
                      split at h
                      · next u r =>
                        split at h
                        · next ls' hg =>
                          cases h
                          refine one _ rfl (fun rho l s w hl hs hB hP hF hw hI => ?_)
                          match s, hs with
                          | x :: s, hs =>
                            obtain ⟨l', h1, h2⟩ := astl_ok hl hs.1 hg
                            exact ⟨pc + len, l', s, w, rho, Or.inr (Or.inr (Or.inr (Or.inr (Or.inr (Or.inr (Or.inl ⟨x, s, l', rfl, h1, rfl⟩)))))), rfl, rfl, rfl, rfl, rfl, agr.refl _ _, Nat.le_refl _, h2, hs.2, hB, hP, hw, hI⟩
                        · cases h
                      · cases h
end SOUND
