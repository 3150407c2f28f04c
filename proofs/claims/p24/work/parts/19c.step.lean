/-! ===== one abstract step is sound ===== -/
def argV : List aA → List Value → Prop
  | [], [] => True
  | .inl r :: ks, v :: vs => (∃ i : Int32, v = .int i ∧ r.1 ≤ i.toInt ∧ i.toInt ≤ r.2) ∧ argV ks vs
  | .inr none :: ks, v :: vs => (∃ l : Int64, v = .long l) ∧ argV ks vs
  | .inr (some q) :: ks, v :: vs => v = .ref q ∧ argV ks vs
  | _, _ => False
def resV (r : Option aA) (o : Option Value) : Prop := match r with
  | none => o = none
  | some (.inl k) => ∃ i : Int32, o = some (.int i) ∧ k.1 ≤ i.toInt ∧ i.toInt ≤ k.2
  | some (.inr none) => ∃ l : Int64, o = some (.long l)
  | some (.inr (some _)) => False
/-! facts of a contract -/
def iof (v : Value) : Int := match v with
  | .int i => i.toInt
  | _ => 0
def yv (av : List Value) (I0 I : Nat → Nat → Int32) (r : Option Value) (y : aY) : Int := match y.1 with
  | 0 => ((av[y.2.1]?).map iof).getD 0
  | 1 => (I y.2.1 y.2.2).toInt
  | 2 => (I0 y.2.1 y.2.2).toInt
  | _ => (r.map iof).getD 0
def qvl (av : List Value) (I0 I : Nat → Nat → Int32) (r : Option Value) : List (aY × Int) → Int
  | [] => 0
  | e :: l => qvl av I0 I r l + e.2 * yv av I0 I r e.1
def qv (av : List Value) (I0 I : Nat → Nat → Int32) (r : Option Value) (q : aQ) : Int := qvl av I0 I r q.2 + q.1
def qsV (av : List Value) (I0 I : Nat → Nat → Int32) (r : Option Value) (qs : List aQ) : Prop := ∀ q ∈ qs, 0 ≤ qv av I0 I r q
/-- what a checked method's end says -/
def Qk (T : aT) (E : mW → Prop) (md : aM) (res : Option aA) (post : List aQ) (av : List Value) (I0 : Nat → Nat → Int32) (r : Option Value) (w' : mW) : Prop := fresh w' ∧ wOK T E w' ∧ sameI md I0 w'.2.1 ∧ resV res r ∧ qsV av I0 w'.2.1 r post
/-- a contract holds -/
def Kc (T : aT) (E : mW → Prop) (a : Nat) (k : aK) : Prop := ∀ (av : List Value) (w : mW), wOK T E w → argV k.2.1 av → qsV av w.2.1 w.2.1 none k.2.2.2.2.1 → fresh w → Tc a k.1 0 0 av w (Qk T E k.2.2.2.1 k.2.2.1 k.2.2.2.2.2 av w.2.1)
section QS
variable {n : Nat} {rho : Nat → Int} {avs : List (Option aI)} {P0 P : aP} {ro : Option aI} {av : List Value} {I0 I : Nat → Nat → Int32} {r : Option Value}
theorem plk_K {n : Nat} {rho : Nat → Int} {P : aP} {I : Nat → Nat → Int32} {q k : Nat} {z : aI} (hP : pOK n rho P I) (h : plk P q (nK (k : Int)) = some z) : nb n z ∧ fvl rho z = (I q k).toInt := by
  obtain ⟨a1, a2, a3, a4⟩ := hP _ (plk_mem h)
  dsimp only at a4
  rw [fvl_K] at a4
  exact ⟨a2, by rw [← a4]; rfl⟩
theorem qal_ok (hav : ∀ (i : Nat) (a : aI), (avs[i]?).getD none = some a → nb n a ∧ fvl rho a = ((av[i]?).map iof).getD 0) (hP0 : pOK n rho P0 I0) (hP : pOK n rho P I) (hr : ∀ a, ro = some a → nb n a ∧ fvl rho a = (r.map iof).getD 0) : ∀ {l : List (aY × Int)} {b : aI}, qal avs P0 P ro l = some b → nb n b ∧ fvl rho b = qvl av I0 I r l
  | [], b, h => by
    cases h
    exact ⟨nb_K, fvl_K⟩
  | e :: l, b, h => by
    unfold qal at h
    split at h
    · next a ha =>
      split at h
      · next b' hb =>
        cases h
        obtain ⟨i1, i2⟩ := qal_ok hav hP0 hP hr hb
        have : nb n a ∧ fvl rho a = yv av I0 I r e.1 := by
          obtain ⟨⟨t, u, v⟩, c⟩ := e
          unfold ya at ha
          unfold yv
          dsimp only at ha ⊢
          match t, ha with
          | 0, ha => exact hav _ _ ha
          | 1, ha => exact plk_K hP ha
          | 2, ha => exact plk_K hP0 ha
          | t + 3, ha => exact hr _ ha
        refine ⟨nb_ad i1 (nb_sc this.1), ?_⟩
        rw [fvl_ad, fvl_sc, i2, this.2]
        rfl
      · cases h
    · cases h
theorem qas_ok (hav : ∀ (i : Nat) (a : aI), (avs[i]?).getD none = some a → nb n a ∧ fvl rho a = ((av[i]?).map iof).getD 0) (hP0 : pOK n rho P0 I0) (hP : pOK n rho P I) (hr : ∀ a, ro = some a → nb n a ∧ fvl rho a = (r.map iof).getD 0) : ∀ {qs : List aQ} {L : List aI}, qas avs P0 P ro qs = some L → (∀ a ∈ L, nb n a) ∧ ((∀ a ∈ L, 0 ≤ fvl rho a) ↔ qsV av I0 I r qs)
  | [], L, h => by
    cases h
    exact ⟨(fun a ha => by cases ha), (fun _ q hq => by cases hq), (fun _ a ha => by cases ha)⟩
  | q :: qs, L, h => by
    unfold qas at h
    split at h
    · next a ha =>
      split at h
      · next b hb =>
        cases h
        obtain ⟨i1, i2⟩ := qas_ok hav hP0 hP hr hb
        unfold qa at ha
        split at ha
        · next c hc =>
          cases ha
          obtain ⟨j1, j2⟩ := qal_ok hav hP0 hP hr hc
          have e : fvl rho (nad c (nK q.1)) = qv av I0 I r q := by
            rw [fvl_ad, fvl_K, j2]
            rfl
          refine ⟨fun a ha => ?_, fun h q' hq => ?_, fun h a ha => ?_⟩
          · rcases List.mem_cons.mp ha with rfl | ha
            · exact nb_ad j1 nb_K
            · exact i1 a ha
          · rcases List.mem_cons.mp hq with rfl | hq
            · rw [← e]; exact h _ List.mem_cons_self
            · exact i2.mp (fun a ha => h a (List.mem_cons_of_mem _ ha)) q' hq
          · rcases List.mem_cons.mp ha with rfl | ha
            · rw [e]; exact h q List.mem_cons_self
            · exact i2.mpr (fun q hq => h q (List.mem_cons_of_mem _ hq)) a ha
        · cases ha
      · cases h
    · cases h
end QS
theorem ldP_ok {T : aT} {I : Nat → Nat → Int32} (hr : ∀ q k, (rg T q k).1 ≤ (I q k).toInt ∧ (I q k).toInt ≤ (rg T q k).2) : ∀ {l : List (Nat × Nat)} {B B' : aB} {P P' : aP} {rho : Nat → Int}, bOK B rho → pOK B.1 rho P I → ldP T l B P = (B', P') → ∃ rho', agr B.1 rho rho' ∧ bOK B' rho' ∧ B.1 ≤ B'.1 ∧ pOK B'.1 rho' P' I
  | [], B, B', P, P', rho, hB, hP, h => by
    cases h
    exact ⟨rho, agr.refl _ _, hB, Nat.le_refl _, hP⟩
  | e :: l, B, B', P, P', rho, hB, hP, h => by
    unfold ldP at h
    split at h
    next z B2 P2 e2 =>
    obtain ⟨rho', h1, h2, h3, h4, -, -⟩ := aget_ok hB hP nb_K (by rw [fvl_K]; omega) hr e2
    obtain ⟨rho'', g1, g2, g3, g4⟩ := ldP_ok hr h2 h4 h
    exact ⟨rho'', h1.trans g1 h3, g2, Nat.le_trans h3 g3, g4⟩
theorem sOK.len {n : Nat} {rho : Nat → Int} : ∀ {st : List aV} {s : List Value}, sOK n rho st s → st.length = s.length
  | [], [], _ => rfl
  | _ :: _, _ :: _, h => by rw [List.length_cons, List.length_cons, sOK.len h.2]
  | [], _ :: _, h => h.elim
  | _ :: _, [], h => h.elim
theorem sOK.take {n : Nat} {rho : Nat → Int} : ∀ {st : List aV} {s : List Value} (k : Nat), sOK n rho st s → sOK n rho (st.take k) (s.take k)
  | _, _, 0, _ => by rw [List.take_zero, List.take_zero]; trivial
  | [], [], _ + 1, _ => trivial
  | _ :: _, _ :: _, k + 1, h => ⟨h.1, sOK.take k h.2⟩
  | [], _ :: _, _ + 1, h => h.elim
  | _ :: _, [], _ + 1, h => h.elim
theorem sOK.drop {n : Nat} {rho : Nat → Int} : ∀ {st : List aV} {s : List Value} (k : Nat), sOK n rho st s → sOK n rho (st.drop k) (s.drop k)
  | _, _, 0, h => h
  | [], [], _ + 1, _ => trivial
  | _ :: _, _ :: _, k + 1, h => sOK.drop k h.2
  | [], _ :: _, _ + 1, h => h.elim
  | _ :: _, [], _ + 1, h => h.elim
theorem sOK.append {n : Nat} {rho : Nat → Int} : ∀ {st : List aV} {s : List Value} {st' : List aV} {s' : List Value}, sOK n rho st s → sOK n rho st' s' → sOK n rho (st ++ st') (s ++ s')
  | [], [], _, _, _, h => h
  | _ :: _, _ :: _, _, _, h, h' => ⟨h.1, sOK.append h.2 h'⟩
  | [], _ :: _, _, _, h, _ => h.elim
  | _ :: _, [], _, _, h, _ => h.elim
theorem sOK.rev {n : Nat} {rho : Nat → Int} : ∀ {st : List aV} {s : List Value}, sOK n rho st s → sOK n rho st.reverse s.reverse
  | [], [], _ => trivial
  | a :: st, v :: s, h => by
    rw [List.reverse_cons, List.reverse_cons]
    exact sOK.append (sOK.rev h.2) ⟨h.1, trivial⟩
  | [], _ :: _, h => h.elim
  | _ :: _, [], h => h.elim
theorem sOK.cats {n : Nat} {rho : Nat → Int} : ∀ {st : List aV} {s : List Value}, sOK n rho st s → (s.map fun v => v.category).sum = catS st
  | [], [], _ => rfl
  | _ :: _, _ :: _, h => by
    rw [List.map_cons, List.sum_cons, sOK.cats h.2, h.1.cat]
    rfl
  | [], _ :: _, h => h.elim
  | _ :: _, [], h => h.elim
theorem lg_sl_cat : ∀ (s : List Value), (lg_sl s).length = (s.map fun v => v.category).sum
  | [] => rfl
  | v :: s => by
    have ih := lg_sl_cat s
    unfold lg_sl at ih ⊢
    rw [List.flatMap_cons, List.length_append, List.map_cons, List.sum_cons, ih]
    cases v <;> rfl
theorem aarg_ok {n : Nat} {rho : Nat → Int} : ∀ {as : List aV} {vs : List Value} (i : Nat), sOK n rho as vs → ∀ k a, (k, a) ∈ aarg i as → i ≤ k ∧ ∃ v, lkp (lv_args i vs) k = some v ∧ vOK n rho a v
  | [], [], i, _, k, a, hm => by cases hm
  | b :: as, v :: vs, i, h, k, a, hm => by
    unfold aarg at hm
    unfold lv_args
    rcases List.mem_cons.mp hm with e | hm
    · cases e
      exact ⟨Nat.le_refl _, v, lkp_cons_eq, h.1⟩
    · have e : (if v.category = 2 then i + 2 else i + 1) = (bif isL b then i + 2 else i + 1) := by
        rw [h.1.cat]
        unfold acat
        cases isL b <;> rfl
      rw [e]
      obtain ⟨h1, u, h2, h3⟩ := aarg_ok _ h.2 k a hm
      have hik : i + 1 ≤ k := by
        revert h1
        cases isL b
        · exact fun h => h
        · exact fun h => Nat.le_of_succ_le h
      exact ⟨by omega, u, by rw [lkp_cons_ne (by omega)]; exact h2, h3⟩
  | [], _ :: _, _, h, _, _, _ => h.elim
  | _ :: _, [], _, h, _, _, _ => h.elim
theorem argB_ok {B : aB} {F : List aI} {rho : Nat → Int} (hB : bOK B rho) (hF : cOK B.1 rho F) : ∀ {ks : List aA} {as : List aV} {vs : List Value}, argB B F ks as = true → sOK B.1 rho as vs → argV ks vs
  | [], [], [], _, _ => trivial
  | [], [], _ :: _, _, h => h.elim
  | .inl r :: ks, .inl x :: as, v :: vs, h, hs => by
    unfold argB at h
    rw [Bool.and_eq_true] at h
    obtain ⟨hx, i, rfl, hi⟩ := hs.1
    have hv := btw_ok hB hF hx h.1
    exact ⟨⟨i, rfl, by omega, by omega⟩, argB_ok hB hF h.2 hs.2⟩
  | .inr none :: ks, .inr none :: as, v :: vs, h, hs => ⟨hs.1, argB_ok hB hF h hs.2⟩
  | .inr (some q) :: ks, .inr (some q') :: as, v :: vs, h, hs => by
    unfold argB at h
    rw [Bool.and_eq_true] at h
    have e := Nat.eq_of_beq_eq_true h.1
    exact ⟨by rw [e]; exact hs.1, argB_ok hB hF h.2 hs.2⟩
  | [], _ :: _, _, h, _ => by cases h
  | .inl _ :: _, [], _, h, _ => by cases h
  | .inr none :: _, [], _, h, _ => by cases h
  | .inr (some _) :: _, [], _, h, _ => by cases h
  | .inl _ :: _, .inr _ :: _, _, h, _ => by cases h
  | .inr none :: _, .inl _ :: _, _, h, _ => by cases h
  | .inr none :: _, .inr (some _) :: _, _, h, _ => by cases h
  | .inr (some _) :: _, .inl _ :: _, _, h, _ => by cases h
  | .inr (some _) :: _, .inr none :: _, _, h, _ => by cases h
  | .inl _ :: _, .inl _ :: _, [], _, hs => hs.elim
  | .inr none :: _, .inr none :: _, [], _, hs => hs.elim
  | .inr (some _) :: _, .inr (some _) :: _, [], _, hs => hs.elim
theorem agf_ok {T : aT} {E : mW → Prop} {a b : Nat} {B B' : aB} {P P' : aP} {rho : Nat → Int} {st st' : List aV} {s : List Value} {w : mW} (hw : wOK T E w) (hB : bOK B rho) (hP : pOK B.1 rho P w.2.1) (hs : sOK B.1 rho st s) (h : agf T a b B P st = some (st', B', P')) : ∃ s' rho', ldf w a b s = some s' ∧ agr B.1 rho rho' ∧ bOK B' rho' ∧ B.1 ≤ B'.1 ∧ pOK B'.1 rho' P' w.2.1 ∧ sOK B'.1 rho' st' s' := by
  unfold agf at h
  split at h
  · next q r =>
    match s, hs with
    | v :: s, hs =>
      obtain rfl : v = .ref q := hs.1
      split at h
      · next c hc =>
        have hsh := hw.1 q _ hc
        obtain ⟨g, h⟩ := bif_o h
        rw [Bool.and_eq_true] at g
        have g1 : c = a := Nat.eq_of_beq_eq_true g.1
        have g2 : b < (flds a).length := Nat.le_of_ble_eq_true g.2
        have base : ∀ u, ldv w q b (tk (ftyOf (flds a) b)) = some u → ldf w a b (.ref q :: s) = some (u :: s) := by
          intro u hu
          simp only [ldf, hsh]
          rw [if_pos ⟨g1, g2⟩, hu]
          rfl
        split at h
        · next hk =>
          split at h
          next z B2 P2 e =>
          cases h
          have e0 : (fvl rho (nK (b : Int))).toNat = b := by rw [fvl_K]; omega
          obtain ⟨rho', h1, h2, h3, h4, h5, h6⟩ := aget_ok hB hP nb_K (by rw [fvl_K]; omega) hw.2.2.1 e
          rw [e0] at h6
          exact ⟨_, rho', base (.int (w.2.1 q b)) (by rw [hk]; rfl), h1, h2, h3, h4, ⟨h5, _, rfl, h6⟩, hs.2.mono h3 h1⟩
        · next hk =>
          cases h
          exact ⟨_, rho, base (.long (w.2.2.1 q b)) (by rw [hk]; rfl), agr.refl _ _, hB, Nat.le_refl _, hP, ⟨_, rfl⟩, hs.2⟩
        · next hk =>
          split at h
          · next z hz =>
            cases h
            have := hw.2.1 q b z hz
            exact ⟨_, rho, base (.ref z) (by rw [hk]; show some (rfO (w.2.2.2 q b)) = _; rw [this]; rfl), agr.refl _ _, hB, Nat.le_refl _, hP, rfl, hs.2⟩
          · cases h
        · cases h
      · cases h
  · cases h
theorem wok_ok {T : aT} {B : aB} {F : List aI} {rho : Nat → Int} {q : Nat} {x z : aI} {i : Int32} (hB : bOK B rho) (hF : cOK B.1 rho F) (hx : nb B.1 x) (h0 : 0 ≤ fvl rho x) (hz : nb B.1 z) (hi : i.toInt = fvl rho z) (h : wok T B F q x z = true) : feP (T.2.2.2.1 q) (fvl rho x).toNat = false ∧ (rg T q (fvl rho x).toNat).1 ≤ i.toInt ∧ i.toInt ≤ (rg T q (fvl rho x).toNat).2 := by
  unfold wok at h
  rw [Bool.and_eq_true] at h
  have hb := i32b i
  rw [hi] at hb ⊢
  exact ⟨feF_ok h.1, rgS_ok hB hF hx h0 hz h.2 hb.1 hb.2⟩
section PUT
variable {T : aT} {E : mW → Prop} (hE : EOK T.2.2.2.1 E)
theorem apf_ok {md : aM} {I0 : Nat → Nat → Int32} {a b ini : Nat} {B : aB} {F : List aI} {P P' : aP} {rho : Nat → Int} {st st' : List aV} {s : List Value} {w : mW} (hF : cOK B.1 rho F) (hE : EOK T.2.2.2.1 E) (hw : wOK T E w) (hB : bOK B rho) (hP : pOK B.1 rho P w.2.1) (hI : sameI md I0 w.2.1) (hs : sOK B.1 rho st s) (h : apf T md a b B F P st = some (st', P')) : ∃ s' w', stf w ini a b s = some (s', w') ∧ wOK T E w' ∧ pOK B.1 rho P' w'.2.1 ∧ sameI md I0 w'.2.1 ∧ sOK B.1 rho st' s' := by
  obtain ⟨sh, I, L, R⟩ := w
  unfold apf at h
  split at h
  · next v q r =>
    match s, hs with
    | u :: t :: s, hs =>
      obtain rfl : t = .ref q := hs.2.1
      split at h
      · next c hc =>
        have hsh := hw.1 q _ hc
        dsimp only at hsh
        split at h
        · next f hf =>
          obtain ⟨g, h9⟩ := bif_o h
          clear h
          rw [Bool.and_eq_true, Bool.not_eq_true'] at g
          have g1 : c = a := Nat.eq_of_beq_eq_true g.1
          subst g1
          have g2 : (!f.2.2.1 || decide (ini = c)) = true := by rw [g.2]; rfl
          have e0 : (fvl rho (nK (b : Int))).toNat = b := by rw [fvl_K]; omega
          have p0 : 0 ≤ fvl rho (nK (b : Int)) := by rw [fvl_K]; omega
          split at h9
          · next z hty _ =>
            obtain ⟨k, h8⟩ := bif_o h9
            cases h8
            rw [Bool.and_eq_true] at k
            obtain ⟨hz, i, rfl, hi⟩ := hs.1
            obtain ⟨w1, w2⟩ := wok_ok hB hF nb_K p0 hz hi k.2
            rw [e0] at w1 w2
            refine ⟨s, (sh, up2 I q b i, L, R), ?_, wOK_put hE hw w1 w2, ?_, sameI_put hI k.1, hs.2.2⟩
            · simp only [stf, hsh, hf, g2, hty, decide_true, Bool.true_and, cond_true]
            · have := pst_add (q := q) (x := nK (b : Int)) (z := z) (v := i) hP p0 nb_K hz hi
              rw [e0] at this
              exact this
          · next z hty _ =>
            obtain ⟨k, h8⟩ := bif_o h9
            cases h8
            rw [Bool.and_eq_true, Bool.and_eq_true] at k
            obtain ⟨hz, i, rfl, hi⟩ := hs.1
            have hv := btw_ok hB hF hz k.2
            have hb : i = 0 ∨ i = 1 := by
              have : i.toInt = 0 ∨ i.toInt = 1 := by omega
              rcases this with q | q
              · exact Or.inl (Int32.toInt_inj.mp (by rw [q]; rfl))
              · exact Or.inr (Int32.toInt_inj.mp (by rw [q]; rfl))
            obtain ⟨w1, w2⟩ := wok_ok hB hF nb_K p0 hz hi k.1.2
            rw [e0] at w1 w2
            refine ⟨s, (sh, up2 I q b i, L, R), ?_, wOK_put hE hw w1 w2, ?_, sameI_put hI k.1.1, hs.2.2⟩
            · simp only [stf, hsh, hf, g2, hty, decide_true, Bool.true_and, cond_true]
              rw [if_pos hb]
            · have := pst_add (q := q) (x := nK (b : Int)) (z := z) (v := i) hP p0 nb_K hz hi
              rw [e0] at this
              exact this
          · next hty _ =>
            cases h9
            obtain ⟨l, rfl⟩ := hs.1
            refine ⟨s, (sh, I, up2 L q b l, R), ?_, ⟨hw.1, hw.2.1, hw.2.2.1, hE.2 _ _ _ _ _ hw.2.2.2⟩, hP, hI, hs.2.2⟩
            simp only [stf, hsh, hf, g2, hty, decide_true, Bool.true_and, cond_true]
          · cases h9
        · cases h
      · cases h
  · cases h
theorem aal_ok {ins : Instr} {B B' : aB} {F : List aI} {P P' : aP} {rho : Nat → Int} {st st' : List aV} {s : List Value} {w : mW} (hw : wOK T E w) (hB : bOK B rho) (hP : pOK B.1 rho P w.2.1) (hF : cOK B.1 rho F) (hs : sOK B.1 rho st s) (h : aal T ins B F P st = some (st', B', P')) : ∃ s' rho', lda none w ins s = some s' ∧ agr B.1 rho rho' ∧ bOK B' rho' ∧ B.1 ≤ B'.1 ∧ pOK B'.1 rho' P' w.2.1 ∧ sOK B'.1 rho' st' s' := by
  unfold aal at h
  split at h
  · next q r =>
    match s, hs with
    | v :: s, hs =>
      obtain rfl : v = .ref q := hs.1
      split at h
      · next ty n hc =>
        have hsh := hw.1 q _ hc
        obtain ⟨g, h⟩ := bif_o h
        cases h
        have g := ile_iff.mp g
        unfold hi32 at g
        refine ⟨.int (Int32.ofNat n) :: s, rho, by simp only [lda, hsh], agr.refl _ _, hB, Nat.le_refl _, hP, ⟨nb_K, _, rfl, ?_⟩, hs.2⟩
        rw [Int32.toInt_ofNat_of_lt (by omega), fvl_K]
      · cases h
  · next x q r =>
    match s, hs with
    | u :: v :: s, hs =>
      obtain ⟨hx, i, rfl, hi⟩ := hs.1
      obtain rfl : v = .ref q := hs.2.1
      split at h
      · next n hc =>
        have hsh := hw.1 q _ hc
        obtain ⟨g, h⟩ := bif_o h
        obtain ⟨g1, g2, g3⟩ := inx_ok hB hF hx hi g
        split at h
        next z B2 P2 e =>
        cases h
        obtain ⟨rho', h1, h2, h3, h4, h5, h6⟩ := aget_ok hB hP hx g2 hw.2.2.1 e
        refine ⟨.int (w.2.1 q i.toNatClampNeg) :: s, rho', by simp [lda, hsh, aok, g1], h1, h2, h3, h4, ⟨h5, _, rfl, ?_⟩, hs.2.2.mono h3 h1⟩
        rw [g3]
        exact h6
      · cases h
  · next x q r =>
    match s, hs with
    | u :: v :: s, hs =>
      obtain ⟨hx, i, rfl, hi⟩ := hs.1
      obtain rfl : v = .ref q := hs.2.1
      split at h
      · next ty n hc =>
        have hsh := hw.1 q _ hc
        obtain ⟨g, h⟩ := bif_o h
        rw [Bool.and_eq_true] at g
        obtain ⟨g1, g2, g3⟩ := inx_ok hB hF hx hi g.2
        split at h
        next z B2 P2 e =>
        cases h
        obtain ⟨rho', h1, h2, h3, h4, h5, h6⟩ := aget_ok hB hP hx g2 hw.2.2.1 e
        refine ⟨.int (w.2.1 q i.toNatClampNeg) :: s, rho', by simp [lda, hsh, g.1, g1], h1, h2, h3, h4, ⟨h5, _, rfl, ?_⟩, hs.2.2.mono h3 h1⟩
        rw [g3]
        exact h6
      · cases h
  · next x q r =>
    match s, hs with
    | u :: v :: s, hs =>
      obtain ⟨hx, i, rfl, hi⟩ := hs.1
      obtain rfl : v = .ref q := hs.2.1
      split at h
      · next n hc =>
        have hsh := hw.1 q _ hc
        obtain ⟨g, h⟩ := bif_o h
        obtain ⟨g1, g2, g3⟩ := inx_ok hB hF hx hi g
        cases h
        exact ⟨.long (w.2.2.1 q i.toNatClampNeg) :: s, rho, by simp [lda, hsh, aok, g1], agr.refl _ _, hB, Nat.le_refl _, hP, ⟨_, rfl⟩, hs.2.2⟩
      · cases h
  · cases h
theorem nar_bool (x : Int32) : 0 ≤ (vp_nar .boolean x).toInt ∧ (vp_nar .boolean x).toInt ≤ 1 := by
  show 0 ≤ (x &&& 1).toInt ∧ (x &&& 1).toInt ≤ 1
  exact and32r (x := x) (y := 1) (by decide)
theorem nar_byte (x : Int32) : -128 ≤ (vp_nar .byte x).toInt ∧ (vp_nar .byte x).toInt ≤ 127 := i2b_rng x
theorem aas_ok {md : aM} {I0 : Nat → Nat → Int32} {ins : Instr} {B : aB} {F : List aI} {P P' : aP} {rho : Nat → Int} {st st' : List aV} {s : List Value} {w : mW} (hF : cOK B.1 rho F) (hE : EOK T.2.2.2.1 E) (hw : wOK T E w) (hB : bOK B rho) (hP : pOK B.1 rho P w.2.1) (hI : sameI md I0 w.2.1) (hs : sOK B.1 rho st s) (h : aas T md ins B F P st = some (st', P')) : ∃ s' w', sta w ins s = some (s', w') ∧ wOK T E w' ∧ pOK B.1 rho P' w'.2.1 ∧ sameI md I0 w'.2.1 ∧ sOK B.1 rho st' s' := by
  obtain ⟨sh, I, L, R⟩ := w
  unfold aas at h
  split at h
  · next z x q r =>
    match s, hs with
    | t :: u :: v :: s, hs =>
      obtain ⟨hz, k, rfl, hk⟩ := hs.1
      obtain ⟨hx, i, rfl, hi⟩ := hs.2.1
      obtain rfl : v = .ref q := hs.2.2.1
      split at h
      · next n hc =>
        have hsh := hw.1 q _ hc
        dsimp only at hsh
        obtain ⟨g, h⟩ := bif_o h
        cases h
        rw [Bool.and_eq_true, Bool.and_eq_true] at g
        obtain ⟨g1, g2, g3⟩ := inx_ok hB hF hx hi g.1
        obtain ⟨w1, w2⟩ := wok_ok hB hF hx g2 hz hk g.2.2
        refine ⟨s, (sh, up2 I q i.toNatClampNeg k, L, R), by simp [sta, hsh, aok, g1], ?_, ?_, sameI_put hI (inm_of_hasA g.2.1 _), hs.2.2.2⟩
        · rw [g3]; exact wOK_put hE hw w1 w2
        · rw [g3]; exact pst_add hP g2 hx hz hk
      · cases h
  · next x q r =>
    match s, hs with
    | t :: u :: v :: s, hs =>
      obtain ⟨k, rfl⟩ := hs.1
      obtain ⟨hx, i, rfl, hi⟩ := hs.2.1
      obtain rfl : v = .ref q := hs.2.2.1
      split at h
      · next n hc =>
        have hsh := hw.1 q _ hc
        dsimp only at hsh
        obtain ⟨g, h⟩ := bif_o h
        cases h
        obtain ⟨g1, g2, g3⟩ := inx_ok hB hF hx hi g
        exact ⟨s, (sh, I, up2 L q i.toNatClampNeg k, R), by simp [sta, hsh, aok, g1], ⟨hw.1, hw.2.1, hw.2.2.1, hE.2 _ _ _ _ _ hw.2.2.2⟩, hP, hI, hs.2.2.2⟩
      · cases h
  · next z x q r =>
    match s, hs with
    | t :: u :: v :: s, hs =>
      obtain ⟨hz, k, rfl, hk⟩ := hs.1
      obtain ⟨hx, i, rfl, hi⟩ := hs.2.1
      obtain rfl : v = .ref q := hs.2.2.1
      split at h
      · next n hc =>
        have hsh := hw.1 q _ hc
        dsimp only at hsh
        obtain ⟨g, h⟩ := bif_o h
        cases h
        rw [Bool.and_eq_true, Bool.and_eq_true, Bool.and_eq_true] at g
        obtain ⟨g1, g2, g3⟩ := inx_ok hB hF hx hi g.1
        have hn := nar_bool k
        have hr := rgI_ok g.2.2 (fvl rho x).toNat hn.1 hn.2
        refine ⟨s, (sh, up2 I q i.toNatClampNeg (vp_nar .boolean k), L, R), by simp [sta, hsh, aok, g1], ?_, ?_, sameI_put hI (inm_of_hasA g.2.1.1 _), hs.2.2.2⟩
        · rw [g3]; exact wOK_put hE hw (feF_ok g.2.1.2) hr
        · rw [g3]
          cases hbt : btw B F z 0 1 with
          | false => exact pkp_ok hP g2
          | true =>
            have hv := btw_ok hB hF hz hbt
            have hk01 : k = 0 ∨ k = 1 := by
              have : k.toInt = 0 ∨ k.toInt = 1 := by omega
              rcases this with q | q
              · exact Or.inl (Int32.toInt_inj.mp (by rw [q]; rfl))
              · exact Or.inr (Int32.toInt_inj.mp (by rw [q]; rfl))
            have hnk : vp_nar .boolean k = k := by rcases hk01 with rfl | rfl <;> decide
            rw [hnk]
            exact pst_add hP g2 hx hz hk
      · next n hc =>
        have hsh := hw.1 q _ hc
        dsimp only at hsh
        obtain ⟨g, h⟩ := bif_o h
        cases h
        rw [Bool.and_eq_true, Bool.and_eq_true, Bool.and_eq_true] at g
        obtain ⟨g1, g2, g3⟩ := inx_ok hB hF hx hi g.1
        have hn := nar_byte k
        have hr := rgI_ok g.2.2 (fvl rho x).toNat hn.1 hn.2
        refine ⟨s, (sh, up2 I q i.toNatClampNeg (vp_nar .byte k), L, R), by simp [sta, hsh, aok, g1], ?_, ?_, sameI_put hI (inm_of_hasA g.2.1.1 _), hs.2.2.2⟩
        · rw [g3]; exact wOK_put hE hw (feF_ok g.2.1.2) hr
        · rw [g3]; exact pkp_ok hP g2
      · cases h
  · cases h
end PUT
