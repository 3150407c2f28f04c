/-! ===== a variable is split into constants; facts are rounded ===== -/
def fcof (x : Nat) : aL → Int
  | [] => 0
  | e :: l => (bif Nat.beq e.1 x then e.2 else 0) + fcof x l
def fwo (x : Nat) : aL → aL
  | [] => []
  | e :: l => bif Nat.beq e.1 x then fwo x l else e :: fwo x l
def sbx (x : Nat) (c : Int) (a : aI) : aI := (a.1 + fcof x a.2 * c, fwo x a.2)
theorem fwo_ev {rho : Nat → Int} {x : Nat} : ∀ {l : aL}, fev rho l = fev rho (fwo x l) + fcof x l * rho x
  | [] => by show (0 : Int) = 0 + 0 * rho x; omega
  | e :: l => by
    have ih := fwo_ev (rho := rho) (x := x) (l := l)
    unfold fwo fcof
    cases h : Nat.beq e.1 x with
    | true =>
      have e1 := Nat.eq_of_beq_eq_true h
      simp only [cond_true, fev]
      rw [ih, e1, Int.add_mul]
      omega
    | false =>
      simp only [cond_false, fev]
      rw [ih, Int.zero_add]
      omega
theorem fwo_mem {x : Nat} : ∀ {l : aL} {e : Nat × Int}, e ∈ fwo x l → e ∈ l
  | [], e, h => h
  | f :: l, e, h => by
    unfold fwo at h
    cases c : Nat.beq f.1 x with
    | true => rw [c] at h; exact List.mem_cons_of_mem _ (fwo_mem h)
    | false =>
      rw [c] at h
      rcases List.mem_cons.mp h with rfl | h
      · exact List.mem_cons_self
      · exact List.mem_cons_of_mem _ (fwo_mem h)
theorem sbx_v {rho : Nat → Int} {x : Nat} {c : Int} (h : rho x = c) (a : aI) : fvl rho (sbx x c a) = fvl rho a := by
  have := fwo_ev (rho := rho) (x := x) (l := a.2)
  unfold sbx fvl
  dsimp only
  rw [this, h]
  omega
theorem sbx_nb {n x : Nat} {c : Int} {a : aI} (h : nb n a) : nb n (sbx x c a) := fun e he => h e (fwo_mem he)
def sbV (x : Nat) (c : Int) (a : aV) : aV := match a with
  | .inl y => .inl (sbx x c y)
  | .inr o => .inr o
def sbF (x : Nat) (c : Int) (f : aF) : aF := (f.1, f.2.1, f.2.2.1.map (fun e => (e.1, sbV x c e.2)), f.2.2.2.map (sbV x c))
def sbS (x : Nat) (c : Int) (A : aS) : aS := (sbF x c A.1, A.2.1.map (sbF x c), A.2.2.1, A.2.2.2.1.map (fun e => ((e.1.1, sbx x c e.1.2), sbx x c e.2)), A.2.2.2.2.1.map (sbx x c), A.2.2.2.2.2.map (sbx x c))
section SB
variable {n x : Nat} {c : Int} {rho : Nat → Int}
theorem sbV_ok (hx : rho x = c) {a : aV} {v : Value} (h : vOK n rho a v) : vOK n rho (sbV x c a) v := by
  unfold sbV
  split
  · obtain ⟨h1, i, h2, h3⟩ := h
    exact ⟨sbx_nb h1, i, h2, by rw [sbx_v hx]; exact h3⟩
  · exact h
theorem sbSt_ok (hx : rho x = c) : ∀ {s : List aV} {l : List Value}, sOK n rho s l → sOK n rho (s.map (sbV x c)) l
  | [], [], _ => trivial
  | _ :: _, _ :: _, h => ⟨sbV_ok hx h.1, sbSt_ok hx h.2⟩
  | [], _ :: _, h => h.elim
  | _ :: _, [], h => h.elim
theorem sbF_ok (hx : rho x = c) {f : aF} {g : mFr} (h : fOK n rho f g) : fOK n rho (sbF x c f) g := by
  obtain ⟨h1, h2, h3, h4⟩ := h
  refine ⟨h1, h2, fun i a hm => ?_, sbSt_ok hx h4⟩
  obtain ⟨e, he, e2⟩ := List.mem_map.mp hm
  obtain ⟨v, q1, q2⟩ := h3 e.1 e.2 he
  cases e2
  exact ⟨v, q1, sbV_ok hx q2⟩
theorem sbFs_ok (hx : rho x = c) : ∀ {s : List aF} {l : List mFr}, fsOK n rho s l → fsOK n rho (s.map (sbF x c)) l
  | [], [], _ => trivial
  | _ :: _, _ :: _, h => ⟨sbF_ok hx h.1, sbFs_ok hx h.2⟩
  | [], _ :: _, h => h.elim
  | _ :: _, [], h => h.elim
theorem sbG_ok (hx : rho x = c) : ∀ {s : List aI} {l : List Int}, gOK n rho s l → gOK n rho (s.map (sbx x c)) l
  | [], [], _ => trivial
  | _ :: _, _ :: _, h => ⟨⟨sbx_nb h.1.1, by rw [sbx_v hx]; exact h.1.2⟩, sbG_ok hx h.2⟩
  | [], _ :: _, h => h.elim
  | _ :: _, [], h => h.elim
theorem sbS_ok (hx : rho x = c) {T : aT} {E : mW → Prop} {md : aM} {I0 : Nat → Nat → Int32} {gv : List Int} {A : aS} {C : mC} (h : SAT T E md I0 gv rho A C) : SAT T E md I0 gv rho (sbS x c A) C := by
  obtain ⟨s1, s2, s3, s4, s5, s6, s7, s8⟩ := h
  refine ⟨sbF_ok hx s1, sbFs_ok hx s2, s3, fun e he => ?_, fun f hf => ?_, sbG_ok hx s6, s7, s8⟩
  · obtain ⟨d, hd, rfl⟩ := List.mem_map.mp he
    obtain ⟨a1, a2, a3, a4⟩ := s4 d hd
    dsimp only
    rw [sbx_v hx, sbx_v hx]
    exact ⟨sbx_nb a1, sbx_nb a2, a3, a4⟩
  · obtain ⟨d, hd, rfl⟩ := List.mem_map.mp hf
    rw [sbx_v hx]
    exact ⟨sbx_nb (s5 d hd).1, (s5 d hd).2⟩
end SB
/-- which place is split: none: what lies on top; some i: what is held at i -/
def spvX (A : aS) (o : Option Nat) : Option Nat := match (match o with
    | none => A.1.2.2.2.head?
    | some i => alk A.1.2.2.1 i) with
  | some (.inl (_, [e])) => some e.1
  | _ => none
def spV (tab : List (Nat × Nat × Option Nat)) (no : Nat) (A : aS) : Option (List aS) := match tab.find? (fun e => Nat.beq e.1 A.1.1 && Nat.beq e.2.1 A.1.2.1) with
  | none => none
  | some e => bif (match A.2.1 with
      | f :: _ => Nat.beq f.1 no
      | [] => false) then none else match spvX A e.2.2 with
    | none => none
    | some x => bif Nat.ble (x + 1) A.2.2.1.1 then some ((List.range ((gtv A.2.2.1 x).2 - (gtv A.2.2.1 x).1 + 1).toNat).map (fun i : Nat => sbS x ((gtv A.2.2.1 x).1 + (i : Int)) A)) else none
theorem spV_ok {T : aT} {E : mW → Prop} {md : aM} {Z : aZ} {av : List Value} {I0 : Nat → Nat → Int32} {dd : Nat} {tab : List (Nat × Nat × Option Nat)} {no : Nat} {A : aS} {As : List aS} (h : spV tab no A = some As) : Snd T E md Z av I0 dd A As := by
  intro rho C hS K
  unfold spV at h
  split at h
  · cases h
  · next e he =>
    cases hb : (match A.2.1 with
      | f :: _ => Nat.beq f.1 no
      | [] => false) with
    | true => rw [hb] at h; cases h
    | false =>
      rw [hb] at h
      simp only [cond_false] at h
      split at h
      · cases h
      · next x hx =>
        obtain ⟨g, h⟩ := bif_o h
        cases h
        have hg := gtv_ok hS.2.2.1 (Nat.le_of_ble_eq_true g)
        have e1 : (gtv A.2.2.1 x).1 + (((rho x - (gtv A.2.2.1 x).1).toNat : Nat) : Int) = rho x := by omega
        refine K (sbS x (rho x) A) (List.mem_map.mpr ⟨(rho x - (gtv A.2.2.1 x).1).toNat, List.mem_range.mpr (by omega), by rw [e1]⟩) rho C (agr.refl _ _) (sbS_ok rfl hS)
/-! rounding -/
def dvT : aL → aL
  | [] => []
  | e :: l => bif ieq (e.2 % 128) 0 then (e.1, e.2 / 128) :: dvT l else dvT l
def rmT : aL → aL
  | [] => []
  | e :: l => bif ieq (e.2 % 128) 0 then rmT l else e :: rmT l
def derF (B : aB) (F : List aI) : List aI := F.filterMap (fun f => match dvT f.2, rmT f.2 with
  | [], _ => none
  | _, [] => none
  | d, r => bif F.any (fun g => neq g ((f.1 + ihi B r) / 128, d)) then none else some ((f.1 + ihi B r) / 128, d))
theorem dv_ev {rho : Nat → Int} : ∀ {l : aL}, fev rho l = 128 * fev rho (dvT l) + fev rho (rmT l)
  | [] => rfl
  | e :: l => by
    have ih := dv_ev (rho := rho) (l := l)
    unfold dvT rmT
    cases h : ieq (e.2 % 128) 0 with
    | true =>
      have h := ieq_iff.mp h
      have hd : e.2 = 128 * (e.2 / 128) := by omega
      simp only [cond_true, fev]
      rw [ih, Int.mul_add, ← Int.mul_assoc, ← hd]
      omega
    | false =>
      simp only [cond_false, fev]
      rw [ih]
      omega
theorem dv_mem : ∀ {l : aL} {e : Nat × Int}, e ∈ dvT l → ∃ f ∈ l, f.1 = e.1
  | [], e, h => by cases h
  | f :: l, e, h => by
    unfold dvT at h
    cases c : ieq (f.2 % 128) 0 with
    | true =>
      rw [c] at h
      rcases List.mem_cons.mp h with rfl | h
      · exact ⟨f, List.mem_cons_self, rfl⟩
      · obtain ⟨g, h1, h2⟩ := dv_mem h
        exact ⟨g, List.mem_cons_of_mem _ h1, h2⟩
    | false =>
      rw [c] at h
      obtain ⟨g, h1, h2⟩ := dv_mem h
      exact ⟨g, List.mem_cons_of_mem _ h1, h2⟩
theorem rm_mem : ∀ {l : aL} {e : Nat × Int}, e ∈ rmT l → e ∈ l
  | [], e, h => by cases h
  | f :: l, e, h => by
    unfold rmT at h
    cases c : ieq (f.2 % 128) 0 with
    | true => rw [c] at h; exact List.mem_cons_of_mem _ (rm_mem h)
    | false =>
      rw [c] at h
      rcases List.mem_cons.mp h with rfl | h
      · exact List.mem_cons_self
      · exact List.mem_cons_of_mem _ (rm_mem h)
theorem derF_ok {B : aB} {rho : Nat → Int} {F : List aI} (hB : bOK B rho) (hF : cOK B.1 rho F) : cOK B.1 rho (derF B F) := by
  intro g hg
  obtain ⟨f, hf, h⟩ := List.mem_filterMap.mp hg
  obtain ⟨h1, h2⟩ := hF f hf
  have key : nb B.1 ((f.1 + ihi B (rmT f.2)) / 128, dvT f.2) ∧ 0 ≤ fvl rho ((f.1 + ihi B (rmT f.2)) / 128, dvT f.2) := by
    refine ⟨fun e he => ?_, ?_⟩
    · obtain ⟨d, q1, q2⟩ := dv_mem he
      rw [← q2]
      exact h1 d q1
    · have hi := (ilo_ok hB (l := rmT f.2) (fun e he => h1 e (rm_mem he))).2
      have hv := dv_ev (rho := rho) (l := f.2)
      unfold fvl at h2 ⊢
      dsimp only
      omega
  split at h
  · cases h
  · cases h
  · cases hb : F.any (fun g => neq g ((f.1 + ihi B (rmT f.2)) / 128, dvT f.2)) with
    | true => rw [hb] at h; cases h
    | false => rw [hb] at h; cases h; exact key
def derS (A : aS) : aS := (A.1, A.2.1, A.2.2.1, A.2.2.2.1, derF A.2.2.1 A.2.2.2.2.1 ++ A.2.2.2.2.1, A.2.2.2.2.2)
theorem derS_ok {T : aT} {E : mW → Prop} {md : aM} {I0 : Nat → Nat → Int32} {gv : List Int} {rho : Nat → Int} {A : aS} {C : mC} (h : SAT T E md I0 gv rho A C) : SAT T E md I0 gv rho (derS A) C := by
  obtain ⟨s1, s2, s3, s4, s5, s6, s7, s8⟩ := h
  refine ⟨s1, s2, s3, s4, fun f hf => ?_, s6, s7, s8⟩
  rcases List.mem_append.mp hf with hf | hf
  · exact derF_ok s3 s5 f hf
  · exact s5 f hf
/-- facts that are shown and kept, at told places -/
abbrev aLm : Type := List ((Nat × Nat) × List aQ)
/-- words: (1, q, k) place k of cell q; (2, i, _) the i-th kept number; (4, q, k) cell q at the place that lies in place k of the model; (5, i, _) local i -/
def lmw (A : aS) (y : aY) : Option aI := match y.1 with
  | 1 => plk A.2.2.2.1 y.2.1 (nK (y.2.2 : Int))
  | 2 => A.2.2.2.2.2[y.2.1]?
  | 4 => match plk A.2.2.2.1 94 (nK (y.2.2 : Int)) with
    | some i => plk A.2.2.2.1 y.2.1 i
    | none => none
  | _ => match alk A.1.2.2.1 y.2.1 with
    | some (.inl x) => some x
    | _ => none
def lml (A : aS) : List (aY × Int) → Option aI
  | [] => some (nK 0)
  | e :: l => match lmw A e.1 with
    | some a => match lml A l with
      | some b => some (nad b (nsc e.2 a))
      | none => none
    | none => none
def lemS (tab : aLm) (A : aS) : aS := match tab.find? (fun e => Nat.beq e.1.1 A.1.1 && Nat.beq e.1.2 A.1.2.1) with
  | none => A
  | some e => (A.1, A.2.1, A.2.2.1, A.2.2.2.1, e.2.filterMap (fun q => match lml A q.2 with
      | some b => bif nbb A.2.2.1.1 (nad b (nK q.1)) && prv A.2.2.1 A.2.2.2.2.1 (nad b (nK q.1)) then some (nad b (nK q.1)) else none
      | none => none) ++ A.2.2.2.2.1, A.2.2.2.2.2)
theorem lemS_ok {T : aT} {E : mW → Prop} {md : aM} {I0 : Nat → Nat → Int32} {gv : List Int} {rho : Nat → Int} {tab : aLm} {A : aS} {C : mC} (h : SAT T E md I0 gv rho A C) : SAT T E md I0 gv rho (lemS tab A) C := by
  unfold lemS
  split
  · exact h
  · obtain ⟨s1, s2, s3, s4, s5, s6, s7, s8⟩ := h
    refine ⟨s1, s2, s3, s4, fun f hf => ?_, s6, s7, s8⟩
    rcases List.mem_append.mp hf with hf | hf
    · obtain ⟨q, -, h2⟩ := List.mem_filterMap.mp hf
      split at h2
      · next b hb =>
        obtain ⟨g, h2⟩ := bif_o h2
        cases h2
        rw [Bool.and_eq_true] at g
        exact ⟨nbb_ok g.1, prv_ok s3 s5 (nbb_ok g.1) g.2⟩
      · cases h2
    · exact s5 f hf
noncomputable def isbr (A : aS) : Bool := match mcode A.1.1 A.1.2.1 with
  | some (_, .ifCond _ _, _) => true
  | some (_, .if_icmp _ _, _) => true
  | _ => false
noncomputable def stpD (tab : aLm) (stp : aS → Option (List aS)) (A : aS) : Option (List aS) := match stp A with
  | some As => some ((bif isbr A then As.map derS else As).map (lemS tab))
  | none => none
theorem stpD_ok {T : aT} {E : mW → Prop} {md : aM} {Z : aZ} {av : List Value} {I0 : Nat → Nat → Int32} {dd : Nat} {stp : aS → Option (List aS)} (hst : ∀ A As, stp A = some As → Snd T E md Z av I0 dd A As) {tab : aLm} {A : aS} {As : List aS} (h : stpD tab stp A = some As) : Snd T E md Z av I0 dd A As := by
  unfold stpD at h
  split at h
  · next As' hs =>
    cases h
    intro rho C hS K
    refine hst A As' hs rho C hS (fun A' hm rho' C' ha hS' => ?_)
    cases hb : isbr A with
    | false =>
      rw [hb] at K
      exact K _ (List.mem_map_of_mem (f := lemS tab) hm) rho' C' ha (lemS_ok hS')
    | true =>
      rw [hb] at K
      exact K _ (List.mem_map_of_mem (f := lemS tab) (List.mem_map_of_mem (f := derS) hm)) rho' C' ha (lemS_ok (derS_ok hS'))
  · cases h
theorem Kc_certD {V : aW} {L : List (Nat × aK)} {E : mW → Prop} {lm : aLm} (hE : EOK V.2.2.2.1 E) (hL : ∀ e ∈ L, Kc (mkT V []) E e.1 e.2) {a dd : Nat} {ks : List aA} {res : Option aA} {md : aM} {pre post : List aQ} {olds : List (Nat × Nat)} {M : mMt} {spf : aS → Option (List aS)} {tab : List (Nat × List aC)} {len fuel : Nat} (hdd : 41 ≤ dd) (hsp : ∀ av I0 A As, av.length = ks.length → spf A = some As → Snd (mkT V L) E md (res, post, ks.length, olds) av I0 dd A As) (hM : mt a = some M) (hfit : Nat.ble (catS (eAv 1 ks)) M.2.2.2.1 = true) (h : certB (stpD lm (stpO spf (mkT V L) md (res, post, ks.length, olds) dd)) tab len fuel (eA (mkT V L) a ks pre olds) = true) : Kc (mkT V []) E a (dd, ks, res, md, pre, post) := by
  unfold certB at h
  rw [Bool.and_eq_true] at h
  have h2 := h.2
  split at h2
  · next A hA =>
    refine Kc_L (L := L) (Kc_of (stp := stpD lm (stpO spf (mkT V L) md (res, post, ks.length, olds) dd)) (cs := csOf tab) (len := len) (fuel := fuel) hM hfit (fun av I0 A As hl hA => ?_) (fun p c hc => ?_) hA h2)
    · refine stpD_ok (fun A As hA => ?_) hA
      unfold stpO at hA
      split at hA
      · next As' hs => cases hA; exact hsp av I0 A _ hl hs
      · refine astep_ok (T := mkT V L) hE hl.symm hdd (fun a k hk => ?_) hA
        obtain ⟨e, he, rfl⟩ := List.mem_map.mp hk
        obtain ⟨h1, h2⟩ := List.mem_filter.mp he
        rw [← Nat.eq_of_beq_eq_true h2]
        exact Kc_L (hL e h1)
    · unfold csOf at hc
      split at hc
      · next e he => exact List.all_eq_true.mp (List.all_eq_true.mp h.1 e (List.mem_of_find?_eq_some he)) c hc
      · cases hc
  · cases h2
/-- two kinds of special steps -/
def spO (f g : aS → Option (List aS)) (A : aS) : Option (List aS) := match f A with
  | some As => some As
  | none => g A
theorem spO_ok {T : aT} {E : mW → Prop} {md : aM} {Z : aZ} {av : List Value} {I0 : Nat → Nat → Int32} {dd : Nat} {f g : aS → Option (List aS)} {A : aS} {As : List aS} (hf : f A = some As → Snd T E md Z av I0 dd A As) (hg : g A = some As → Snd T E md Z av I0 dd A As) (h : spO f g A = some As) : Snd T E md Z av I0 dd A As := by
  unfold spO at h
  split at h
  · next B hB => cases h; exact hf hB
  · exact hg h
