/-! ===== static tables: one is read as the script is ===== -/
def noRA (v : Value) : Bool := match v with
  | .retAddr _ => false
  | _ => true
theorem trv_ra {base xa t : Nat} {v : Value} (h : noRA v = true) : trv base xa v = trv base t v := by
  cases v <;> first | rfl | cases h
theorem trvl_ra {base xa t : Nat} : ∀ {st : List Value}, st.all noRA = true → st.map (trv base xa) = st.map (trv base t)
  | [], _ => rfl
  | v :: st, h => by
    rw [List.all_cons, Bool.and_eq_true] at h
    rw [List.map_cons, List.map_cons, trv_ra h.1, trvl_ra h.2]
theorem trl_ra {base xa t : Nat} : ∀ {ls : mL}, ls.all (fun q => noRA q.2) = true → trl base xa ls = trl base t ls
  | [], _ => rfl
  | v :: st, h => by
    rw [List.all_cons, Bool.and_eq_true] at h
    have ih := trl_ra (base := base) (xa := xa) (t := t) h.2
    unfold trl at ih ⊢
    rw [List.map_cons, List.map_cons, trv_ra h.1, ih]
theorem retOK_ra {M : mMt} {r : Option Value} {pc : Nat} (h : retOK M r pc) : r.toList.all noRA = true := by
  unfold retOK at h
  split at h
  all_goals first | rfl | exact h.elim
theorem lv_fil {lsA : Array Slot} {n base xa t : Nat} {ls : mL} (h : lv_has lsA n (trl base xa ls)) : lv_has lsA n (trl base t (ls.filter (fun q => noRA q.2))) := by
  refine ⟨h.1, h.2.1, fun q hq => ?_⟩
  obtain ⟨p, hp, rfl⟩ := List.mem_map.mp hq
  obtain ⟨h1, h2⟩ := List.mem_filter.mp hp
  have := h.2.2 (p.1, trv base xa p.2) (List.mem_map.mpr ⟨p, h1, rfl⟩)
  dsimp only at this ⊢
  rw [← trv_ra (xa := xa) h2]
  exact this
theorem XW.stat {j : Nat} {M : mMt} {d mc ms : Nat} {Q : Option Value → mW → Prop} {pc index : Nat} {C n : String} {L : Nat} {f : Nat → Int32} {ls : mL} {st : List Value} {w : mW} (hM : mt j = some M) (hd : decode M.2.2.1 pc = .ok (.getstatic index, 3)) (hlk : Cond.fieldLink (mcn M.1) index C n "[I" ∈ lw_tbk) (hst : ∀ base U, SX base U → stX C n L f base U) (hs : st.all noRA = true) (K : XW j M (some (L, f)) d mc ms Q (pc + 3, ls.filter (fun q => noRA q.2), .retAddr 0 :: st, w)) : XW j M none d mc ms Q (pc, ls, st, w) := by
  intro D base xa p l e R s m args below meth c Z H locs cells slots lsA cA hC hfr hlo hce hsl hH hL hlv hret
  obtain ⟨hx, hb, hr, hml, hown, hts, hlkk, hnm, hKn, hX⟩ := id hC
  obtain ⟨hcl, hini⟩ := mOK_at hM
  rw [hcl] at hown
  obtain ⟨t, ht, hZ, hXx⟩ := hst base s hKn.2
  obtain ⟨cf, kf, fi, fd, a, cell, h1, h2, h3, h4, h5, h6, h7, h8⟩ := hZ
  dsimp only at hH hlv ⊢
  refine W.gets hx hb hown (hts _ hlk) h1 h2 h3 h4 (by rw [hH.2.1 a (Nat.lt_of_not_le h8)]; exact h5) (fun e => by rw [e] at h6; cases h6) h7 rfl hd ?_
  have k := K D base t p l e R s m args below meth c Z H locs cells slots lsA cA ⟨hx, hb, hr, hml, by rw [hcl]; exact hown, hts, hlkk, hnm, hKn, fun n' f' e => by cases e; exact ⟨ht, hXx⟩⟩ hfr hlo hce hsl hH hL (lv_fil hlv) (fun r w' H' locs' ls' cA' cells' slots' pc' q1 q2 q3 q4 q5 q6 => by
    rw [← trvl_ra (xa := xa) (retOK_ra q6)]
    exact hret r w' H' locs' ls' cA' cells' slots' pc' q1 q2 q3 q4 q5 q6)
  dsimp only at k
  rw [List.map_cons, ← trvl_ra (xa := xa) hs] at k
  exact k
theorem XW.dropX {j : Nat} {M : mMt} {X : mX} {d mc ms : Nat} {Q : Option Value → mW → Prop} {S : mS} (K : XW j M none d mc ms Q S) : XW j M X d mc ms Q S := by
  intro D base xa p l e R s m args below meth c Z H locs cells slots lsA cA hC
  obtain ⟨hx, hb, hr, hml, hown, hts, hlkk, hnm, hKn, hX⟩ := hC
  exact K D base xa p l e R s m args below meth c Z H locs cells slots lsA cA ⟨hx, hb, hr, hml, hown, hts, hlkk, hnm, hKn, fun _ _ e => by cases e⟩
theorem lkp_cons {q : Nat × Value} {l : mL} {i : Nat} : lkp (q :: l) i = if q.1 == i then some q.2 else lkp l i := by
  unfold lkp
  rw [List.find?_cons]
  cases c : q.1 == i with
  | true => rfl
  | false => rfl
theorem lkp_fil {i : Nat} {v : Value} (hv : noRA v = true) : ∀ {l : mL}, lkp l i = some v → lkp (l.filter (fun q => noRA q.2)) i = some v
  | [], h => by cases h
  | q :: l, h => by
    have ih := lkp_fil (i := i) hv (l := l)
    rw [lkp_cons] at h
    rw [List.filter_cons]
    by_cases c : (q.1 == i) = true
    · rw [if_pos c] at h
      cases h
      rw [if_pos hv, lkp_cons, if_pos c]
    · rw [if_neg c] at h
      by_cases r : noRA q.2 = true
      · rw [if_pos r, lkp_cons, if_neg c]
        exact ih h
      · rw [if_neg r]
        exact ih h
theorem vOK.nra {n : Nat} {rho : Nat → Int} {a : aV} {v : Value} (h : vOK n rho a v) : noRA v = true := by
  unfold vOK at h
  split at h
  · obtain ⟨-, i, rfl, -⟩ := h; rfl
  · subst h; rfl
  · obtain ⟨l, rfl⟩ := h; rfl
theorem sOK.nra {n : Nat} {rho : Nat → Int} : ∀ {s : List aV} {l : List Value}, sOK n rho s l → l.all noRA = true
  | [], [], _ => rfl
  | _ :: _, _ :: _, h => by rw [List.all_cons, h.1.nra, sOK.nra h.2]; rfl
  | [], _ :: _, h => h.elim
  | _ :: _, [], h => h.elim
theorem lOK.fil {n : Nat} {rho : Nat → Int} {ls : List (Nat × aV)} {l : mL} (h : lOK n rho ls l) : lOK n rho ls (l.filter (fun q => noRA q.2)) := by
  intro i a hm
  obtain ⟨v, h1, h2⟩ := h i a hm
  exact ⟨v, lkp_fil h2.nra h1, h2⟩
/-- where a static table is read: which, its length and numbers, the place's locals, the end -/
def stAt (j pc : Nat) (L : Nat) (f : Nat → Int32) (i : Nat) (o : Option Nat) (e : Nat) : Prop :=
  ∃ (M : mMt) (index : Nat) (C n : String), mt j = some M ∧ decode M.2.2.1 pc = .ok (.getstatic index, 3) ∧ Cond.fieldLink (mcn M.1) index C n "[I" ∈ lw_tbk ∧ (∀ base U, SX base U → stX C n L f base U) ∧
  ∀ (d mc ms : Nat) (Q : Option Value → mW → Prop) (l : mL) (st : List Value) (w : mW) (x : Int32), lkp l i = some (.int x) → match o with
    | none => inR x L = true → XW j M none d mc ms Q (e, l, .int (f x.toNatClampNeg) :: st, w) → XW j M (some (L, f)) d mc ms Q (pc + 3, l, .retAddr 0 :: st, w)
    | some i' => ∀ y : Int32, lkp l i' = some (.int y) → inR (x * 4 + y) L = true → XW j M none d mc ms Q (e, l, .int (f (x * 4 + y).toNatClampNeg) :: st, w) → XW j M (some (L, f)) d mc ms Q (pc + 3, l, .retAddr 0 :: st, w)
theorem XF.tb {dd : Nat} {Q : Option Value → mW → Prop} {j pc e : Nat} {l l' : mL} {st st' : List Value} {fs : List mFr} {w : mW} (h : ∀ (M : mMt) (d mc ms : Nat) (Q : Option Value → mW → Prop), mt j = some M → XW j M none d mc ms Q (e, l', st', w) → XW j M none d mc ms Q (pc, l, st, w)) (K : XF none dd 0 0 Q (j, e, l', st') fs w) : XF none dd 0 0 Q (j, pc, l, st) fs w := by
  cases fs with
  | nil =>
    unfold XF at K ⊢
    intro hf M hM
    exact h M _ _ _ _ hM (K hf M hM)
  | cons f fs =>
    unfold XF at K ⊢
    intro hf M hM
    exact h M _ _ _ _ hM (K hf M hM)
def rmn (f : Nat → Int32) (l : Nat) : Nat → Int
  | 0 => hi32
  | n + 1 => imin (f (l + n)).toInt (rmn f l n)
def rmx (f : Nat → Int32) (l : Nat) : Nat → Int
  | 0 => lo32
  | n + 1 => imax (f (l + n)).toInt (rmx f l n)
theorem rmm_ok {f : Nat → Int32} {l : Nat} : ∀ {n k : Nat}, k < n → rmn f l n ≤ (f (l + k)).toInt ∧ (f (l + k)).toInt ≤ rmx f l n
  | 0, k, h => by omega
  | n + 1, k, h => by
    unfold rmn rmx
    have m1 := @imin_le (f (l + n)).toInt (rmn f l n)
    have m2 := @imax_le (f (l + n)).toInt (rmx f l n)
    by_cases e : k = n
    · subst e; omega
    · have ih := rmm_ok (f := f) (l := l) (n := n) (k := k) (by omega)
      omega
/-- a table: where, its length, its numbers, the locals, the end -/
abbrev aTb : Type := (Nat × Nat) × Nat × (Nat → Int32) × Nat × Option Nat × Nat
def spS (tab : List aTb) (A : aS) : Option (List aS) := match A with
  | ((j, pc, ls, st), fs, B, P, F, G) => match tab.find? (fun t => Nat.beq t.1.1 j && Nat.beq t.1.2 pc) with
    | none => none
    | some (_, L, f, i, o, e) => match alk ls i with
      | some (.inl x) => match (match o with
          | none => some x
          | some i' => match alk ls i' with
            | some (.inl y) => bif in32 (ivl B (nsc 4 x)).1 (ivl B (nsc 4 x)).2 then some (nad (nsc 4 x) y) else none
            | _ => none) with
        | some z => bif ile 0 (ivl B z).1 && ile (ivl B z).2 ((L : Int) - 1) && Nat.ble L 1000 then (match mkv B (rmn f (ivl B z).1.toNat ((ivl B z).2 - (ivl B z).1 + 1).toNat) (rmx f (ivl B z).1.toNat ((ivl B z).2 - (ivl B z).1 + 1).toNat) with
          | (u, B') => some [((j, e, ls, .inl u :: st), fs, B', P, F, G)]) else none
        | none => none
      | _ => none
theorem mul4b {x : Int32} (h : lo32 ≤ 4 * x.toInt ∧ 4 * x.toInt ≤ hi32) : (x * 4).toInt = 4 * x.toInt := by
  rw [Int32.toInt_mul]
  have e4 : (4 : Int32).toInt = 4 := rfl
  rw [e4, bm32 (by omega) (by omega)]
  omega
theorem spS_ok {T : aT} {E : mW → Prop} {md : aM} {Z : aZ} {av : List Value} {I0 : Nat → Nat → Int32} {dd : Nat} {tab : List aTb} (htab : ∀ t ∈ tab, stAt t.1.1 t.1.2 t.2.1 t.2.2.1 t.2.2.2.1 t.2.2.2.2.1 t.2.2.2.2.2) {A : aS} {As : List aS} (h : spS tab A = some As) : Snd T E md Z av I0 dd A As := by
  obtain ⟨⟨j, pc, ls, st⟩, fs, B, P, F, G⟩ := A
  intro rho C hS K
  obtain ⟨⟨j', pc', l, s⟩, gs, w⟩ := C
  obtain ⟨⟨e1, e2, hl, hs⟩, hfs, hB, hP, hF, hG, hw, hI⟩ := hS
  dsimp only at e1 e2 hl hs hfs hB hP hF hG hw hI K ⊢
  subst e1 e2
  unfold spS at h
  dsimp only at h
  split at h
  · cases h
  · next t L f i o e hf =>
    have hm := List.mem_of_find?_eq_some hf
    have hk := List.find?_some hf
    dsimp only at hk
    rw [Bool.and_eq_true] at hk
    have hat := htab _ hm
    dsimp only at hat
    rw [Nat.eq_of_beq_eq_true hk.1, Nat.eq_of_beq_eq_true hk.2] at hat
    obtain ⟨M, index, C, n, hM, hd, hlk, hst, hrun⟩ := hat
    split at h
    · next x hx =>
      obtain ⟨v, hv1, hxn, xi, rfl, hxi⟩ := hl i _ (alk_mem hx)
      split at h
      · next z hz =>
        obtain ⟨g, h⟩ := bif_o h
        simp only [Bool.and_eq_true, ile_iff] at g
        obtain ⟨⟨g1, g2⟩, g3⟩ := g
        have hL := Nat.le_of_ble_eq_true g3
        generalize hu : mkv B (rmn f (ivl B z).1.toNat ((ivl B z).2 - (ivl B z).1 + 1).toNat) (rmx f (ivl B z).1.toNat ((ivl B z).2 - (ivl B z).1 + 1).toNat) = ub at h
        obtain ⟨u, B'⟩ := ub
        cases h
        have key : ∀ iz : Int32, nb B.1 z → iz.toInt = fvl rho z → inR iz L = true ∧ ∃ rho', agr B.1 rho rho' ∧ bOK B' rho' ∧ B.1 ≤ B'.1 ∧ nb B'.1 u ∧ (f iz.toNatClampNeg).toInt = fvl rho' u := by
          intro iz hzn hzi
          have hv := ivl_ok hB hzn hzi
          have hc : iz.toNatClampNeg = iz.toInt.toNat := rfl
          refine ⟨inR_of (by omega) (by omega), ?_⟩
          have hr := rmm_ok (f := f) (l := (ivl B z).1.toNat) (n := ((ivl B z).2 - (ivl B z).1 + 1).toNat) (k := iz.toNatClampNeg - (ivl B z).1.toNat) (by rw [hc]; omega)
          rw [show (ivl B z).1.toNat + (iz.toNatClampNeg - (ivl B z).1.toNat) = iz.toNatClampNeg by rw [hc]; omega] at hr
          have hn := mkv_ok hB hr.1 hr.2
          rw [hu] at hn
          obtain ⟨rho', a1, a2, a3, a4, a5⟩ := hn
          exact ⟨rho', a1, a2, a3, a4, a5⟩
        cases o with
        | none =>
          cases hz
          obtain ⟨k1, rho', k2, k3, k4, k5, k6⟩ := key xi hxn hxi
          refine XF.tb (e := e) (l' := l.filter (fun q => noRA q.2)) (st' := .int (f xi.toNatClampNeg) :: s) (fun M' d mc ms Q hM' K' => ?_) (K _ (List.mem_singleton_self _) rho' ((j, e, l.filter (fun q => noRA q.2), .int (f xi.toNatClampNeg) :: s), gs, w) k2 ⟨⟨rfl, rfl, (hl.mono k4 k2).fil, ⟨k5, _, rfl, k6⟩, hs.mono k4 k2⟩, hfs.mono k4 k2, k3, hP.mono k4 k2, hF.mono k4 k2, hG.mono k4 k2, hw, hI⟩)
          cases hM.symm.trans hM'
          exact XW.stat hM hd hlk hst hs.nra (hrun d mc ms Q _ s w xi (lkp_fil rfl hv1) k1 K')
        | some i' =>
          dsimp only at hz
          split at hz
          · next y hy =>
            obtain ⟨gz, hz⟩ := bif_o hz
            cases hz
            obtain ⟨v', hv1', hyn, yi, rfl, hyi⟩ := hl i' _ (alk_mem hy)
            have gz := in32_iff.mp gz
            have h4 := ivf_ok hB (nb_sc (k := 4) hxn)
            rw [fvl_sc] at h4
            have em := mul4b (x := xi) (by rw [hxi]; omega)
            have hzv := ivf_ok hB (nb_ad (nb_sc (k := 4) hxn) hyn)
            rw [fvl_ad, fvl_sc] at hzv
            have ea : (xi * 4 + yi).toInt = fvl rho (nad (nsc 4 x) y) := by
              rw [Int32.toInt_add, em, fvl_ad, fvl_sc, hxi, hyi]
              exact bm32 (by unfold lo32; omega) (by unfold hi32; omega)
            obtain ⟨k1, rho', k2, k3, k4, k5, k6⟩ := key (xi * 4 + yi) (nb_ad (nb_sc hxn) hyn) ea
            refine XF.tb (e := e) (l' := l.filter (fun q => noRA q.2)) (st' := .int (f (xi * 4 + yi).toNatClampNeg) :: s) (fun M' d mc ms Q hM' K' => ?_) (K _ (List.mem_singleton_self _) rho' ((j, e, l.filter (fun q => noRA q.2), .int (f (xi * 4 + yi).toNatClampNeg) :: s), gs, w) k2 ⟨⟨rfl, rfl, (hl.mono k4 k2).fil, ⟨k5, _, rfl, k6⟩, hs.mono k4 k2⟩, hfs.mono k4 k2, k3, hP.mono k4 k2, hF.mono k4 k2, hG.mono k4 k2, hw, hI⟩)
            cases hM.symm.trans hM'
            exact XW.stat hM hd hlk hst hs.nra (hrun d mc ms Q _ s w xi (lkp_fil rfl hv1) yi (lkp_fil rfl hv1') k1 K')
          · cases hz
      · cases h
    · cases h
/-! the places -/
set_option maxRecDepth 100000 in
theorem st_lA : Cond.fieldLink "PointsHome$Bodies" 74 "PointsHome$Bodies" "ABOVE" "[I" ∈ lw_tbk := tbk_of (List.mem_of_getElem? (i := 846) (by decide +kernel)) rfl
set_option maxRecDepth 100000 in
theorem st_lO : Cond.fieldLink "PointsHome$Bodies" 160 "PointsHome$Bodies" "OWN_BODY" "[I" ∈ lw_tbk := tbk_of (List.mem_of_getElem? (i := 1641) (by decide +kernel)) rfl
theorem shA {j : Nat} {M : mMt} {pc e L i : Nat} {f : Nat → Int32} {p1 len1 a1 b1 h1 p2 a2 b2 h2 : Nat} {v1 v2 : Int} {ins1 : Instr} (hM : mt j = some M) (he1 : mcode j (pc + 3) = some (p1, ins1, len1, a1, b1, v1, h1)) (hp : ∀ (l : mL) (x : Int32), lkp l i = some (.int x) → psh ins1 l = some (.int x)) (he2 : mcode j (pc + 3 + len1) = some (p2, .iaload, 1, a2, b2, v2, h2)) (he : pc + 3 + len1 + 1 = e) (d mc ms : Nat) (Q : Option Value → mW → Prop) (l : mL) (st : List Value) (w : mW) (x : Int32) (hx : lkp l i = some (.int x)) (hin : inR x L = true) (K : XW j M none d mc ms Q (e, l, .int (f x.toNatClampNeg) :: st, w)) : XW j M (some (L, f)) d mc ms Q (pc + 3, l, .retAddr 0 :: st, w) := by
  subst he
  refine XW.fam (S' := (pc + 3 + len1, l, .int x :: .retAddr 0 :: st, w)) hM he1 (Or.inl ⟨.int x, hp l x hx, rfl⟩) ?_
  refine XW.fam (S' := (pc + 3 + len1 + 1, l, .int (f x.toNatClampNeg) :: st, w)) hM he2 (Or.inr (Or.inr (Or.inl ⟨.int (f x.toNatClampNeg) :: st, by simp [lda, hin], rfl⟩))) ?_
  exact XW.dropX K
theorem shB {j : Nat} {M : mMt} {pc e L i i' : Nat} {f : Nat → Int32} {p1 len1 a1 b1 h1 p2 a2 b2 h2 p3 a3 b3 h3 p4 len4 a4 b4 h4 p5 a5 b5 h5 p6 a6 b6 h6 : Nat} {v1 v2 v3 v4 v5 v6 : Int} {ins1 ins4 : Instr} (hM : mt j = some M) (he1 : mcode j (pc + 3) = some (p1, ins1, len1, a1, b1, v1, h1)) (hp : ∀ (l : mL) (x : Int32), lkp l i = some (.int x) → psh ins1 l = some (.int x)) (he2 : mcode j (pc + 3 + len1) = some (p2, .iconst 4, 1, a2, b2, v2, h2)) (he3 : mcode j (pc + 3 + len1 + 1) = some (p3, .imul, 1, a3, b3, v3, h3)) (he4 : mcode j (pc + 3 + len1 + 1 + 1) = some (p4, ins4, len4, a4, b4, v4, h4)) (hp4 : ∀ (l : mL) (x : Int32), lkp l i' = some (.int x) → psh ins4 l = some (.int x)) (he5 : mcode j (pc + 3 + len1 + 1 + 1 + len4) = some (p5, .iadd, 1, a5, b5, v5, h5)) (he6 : mcode j (pc + 3 + len1 + 1 + 1 + len4 + 1) = some (p6, .iaload, 1, a6, b6, v6, h6)) (he : pc + 3 + len1 + 1 + 1 + len4 + 1 + 1 = e) (d mc ms : Nat) (Q : Option Value → mW → Prop) (l : mL) (st : List Value) (w : mW) (x : Int32) (hx : lkp l i = some (.int x)) (y : Int32) (hy : lkp l i' = some (.int y)) (hin : inR (x * 4 + y) L = true) (K : XW j M none d mc ms Q (e, l, .int (f (x * 4 + y).toNatClampNeg) :: st, w)) : XW j M (some (L, f)) d mc ms Q (pc + 3, l, .retAddr 0 :: st, w) := by
  subst he
  refine XW.fam (S' := (pc + 3 + len1, l, .int x :: .retAddr 0 :: st, w)) hM he1 (Or.inl ⟨.int x, hp l x hx, rfl⟩) ?_
  refine XW.fam (S' := (pc + 3 + len1 + 1, l, .int 4 :: .int x :: .retAddr 0 :: st, w)) hM he2 (Or.inl ⟨.int 4, rfl, rfl⟩) ?_
  refine XW.fam (S' := (pc + 3 + len1 + 1 + 1, l, .int (x * 4) :: .retAddr 0 :: st, w)) hM he3 (Or.inr (Or.inr (Or.inr (Or.inr (Or.inr (Or.inl ⟨.int (x * 4) :: .retAddr 0 :: st, rfl, rfl⟩)))))) ?_
  refine XW.fam (S' := (pc + 3 + len1 + 1 + 1 + len4, l, .int y :: .int (x * 4) :: .retAddr 0 :: st, w)) hM he4 (Or.inl ⟨.int y, hp4 l y hy, rfl⟩) ?_
  refine XW.fam (S' := (pc + 3 + len1 + 1 + 1 + len4 + 1, l, .int (x * 4 + y) :: .retAddr 0 :: st, w)) hM he5 (Or.inr (Or.inr (Or.inr (Or.inr (Or.inr (Or.inl ⟨.int (x * 4 + y) :: .retAddr 0 :: st, rfl, rfl⟩)))))) ?_
  refine XW.fam (S' := (pc + 3 + len1 + 1 + 1 + len4 + 1 + 1, l, .int (f (x * 4 + y).toNatClampNeg) :: st, w)) hM he6 (Or.inr (Or.inr (Or.inl ⟨.int (f (x * 4 + y).toNatClampNeg) :: st, by simp [lda, hin], rfl⟩))) ?_
  exact XW.dropX K
theorem il3 {l : mL} {x : Int32} (h : lkp l 3 = some (.int x)) : psh (.iload_n 3) l = some (.int x) := by
  show (match lkp l 3 with
    | some (Value.int x) => some (Value.int x)
    | _ => none) = some (Value.int x)
  rw [h]
theorem st_0 : stAt 40 37 8 fABO 3 none 42 := ⟨mr_40, 74, "PointsHome$Bodies", "ABOVE", rfl, by decide +kernel, st_lA, fun _ _ h => h.1, fun d mc ms Q l st w x hx hin K => shA (ins1 := .iload_n 3) (len1 := 1) (pc := 37) rfl rfl (fun l x h => il3 h) rfl rfl d mc ms Q l st w x hx hin K⟩
theorem st_1 : stAt 210 30 8 fABO 6 none 36 := ⟨mr_210, 74, "PointsHome$Bodies", "ABOVE", rfl, by decide +kernel, st_lA, fun _ _ h => h.1, fun d mc ms Q l st w x hx hin K => shA (ins1 := .iload 6) (len1 := 2) (pc := 30) rfl rfl (fun l x h => by simp [psh, h]) rfl rfl d mc ms Q l st w x hx hin K⟩
theorem st_2 : stAt 210 17 32 fOWN 6 (some 3) 27 := ⟨mr_210, 160, "PointsHome$Bodies", "OWN_BODY", rfl, by decide +kernel, st_lO, fun _ _ h => h.2.1, fun d mc ms Q l st w x hx y hy hin K => shB (ins1 := .iload 6) (ins4 := .iload_n 3) (len1 := 2) (len4 := 1) (pc := 17) rfl rfl (fun l x h => by simp [psh, h]) rfl rfl rfl (fun l x h => il3 h) rfl rfl rfl d mc ms Q l st w x hx y hy hin K⟩
theorem st_3 : stAt 210 58 32 fOWN 6 (some 3) 68 := ⟨mr_210, 160, "PointsHome$Bodies", "OWN_BODY", rfl, by decide +kernel, st_lO, fun _ _ h => h.2.1, fun d mc ms Q l st w x hx y hy hin K => shB (ins1 := .iload 6) (ins4 := .iload_n 3) (len1 := 2) (len4 := 1) (pc := 58) rfl rfl (fun l x h => by simp [psh, h]) rfl rfl rfl (fun l x h => il3 h) rfl rfl rfl d mc ms Q l st w x hx y hy hin K⟩
def stTab : List aTb := [((40, 37), 8, fABO, 3, none, 42), ((210, 30), 8, fABO, 6, none, 36), ((210, 17), 32, fOWN, 6, some 3, 27), ((210, 58), 32, fOWN, 6, some 3, 68)]
theorem stTab_ok : ∀ t ∈ stTab, stAt t.1.1 t.1.2 t.2.1 t.2.2.1 t.2.2.2.1 t.2.2.2.2.1 t.2.2.2.2.2 := List.forall_mem_cons.mpr ⟨st_0, List.forall_mem_cons.mpr ⟨st_1, List.forall_mem_cons.mpr ⟨st_2, List.forall_mem_cons.mpr ⟨st_3, (fun e he => by cases he)⟩⟩⟩⟩
