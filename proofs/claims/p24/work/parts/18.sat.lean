/-! ===== what an abstract state says ===== -/
def vOK (n : Nat) (rho : Nat → Int) (a : aV) (v : Value) : Prop := match a with
  | .inl x => nb n x ∧ ∃ i : Int32, v = .int i ∧ i.toInt = fvl rho x
  | .inr (some q) => v = .ref q
  | .inr none => ∃ l : Int64, v = .long l
def lOK (n : Nat) (rho : Nat → Int) (ls : List (Nat × aV)) (l : mL) : Prop := ∀ i a, (i, a) ∈ ls → ∃ v, lkp l i = some v ∧ vOK n rho a v
def sOK (n : Nat) (rho : Nat → Int) : List aV → List Value → Prop
  | [], [] => True
  | a :: as, v :: vs => vOK n rho a v ∧ sOK n rho as vs
  | _, _ => False
def fOK (n : Nat) (rho : Nat → Int) (f : aF) (g : mFr) : Prop := f.1 = g.1 ∧ f.2.1 = g.2.1 ∧ lOK n rho f.2.2.1 g.2.2.1 ∧ sOK n rho f.2.2.2 g.2.2.2
def fsOK (n : Nat) (rho : Nat → Int) : List aF → List mFr → Prop
  | [], [] => True
  | f :: fs, g :: gs => fOK n rho f g ∧ fsOK n rho fs gs
  | _, _ => False
def bOK (B : aB) (rho : Nat → Int) : Prop := (∀ x, x < B.1 → lo32 ≤ rho x ∧ rho x ≤ hi32) ∧ ∀ e ∈ B.2, e.1 < B.1 ∧ e.2.1 ≤ rho e.1 ∧ rho e.1 ≤ e.2.2
def pOK (n : Nat) (rho : Nat → Int) (P : aP) (I : Nat → Nat → Int32) : Prop := ∀ e ∈ P, nb n e.1.2 ∧ nb n e.2 ∧ 0 ≤ fvl rho e.1.2 ∧ (I e.1.1 (fvl rho e.1.2).toNat).toInt = fvl rho e.2
def cOK (n : Nat) (rho : Nat → Int) (F : List aI) : Prop := ∀ f ∈ F, nb n f ∧ 0 ≤ fvl rho f
def gOK (n : Nat) (rho : Nat → Int) : List aI → List Int → Prop
  | [], [] => True
  | a :: G, v :: gv => (nb n a ∧ fvl rho a = v) ∧ gOK n rho G gv
  | _, _ => False
def wOK (T : aT) (E : mW → Prop) (w : mW) : Prop := (∀ q e, T.1 q = some e → w.1[q]? = some e) ∧ (∀ q k z, T.2.1 q k = some z → w.2.2.2 q k = some z) ∧ (∀ q k, (rg T q k).1 ≤ (w.2.1 q k).toInt ∧ (w.2.1 q k).toInt ≤ (rg T q k).2) ∧ E w
def sameI (md : aM) (I0 I : Nat → Nat → Int32) : Prop := ∀ q k, inm md q k = false → I q k = I0 q k
def SAT (T : aT) (E : mW → Prop) (md : aM) (I0 : Nat → Nat → Int32) (gv : List Int) (rho : Nat → Int) (A : aS) (C : mC) : Prop :=
  fOK A.2.2.1.1 rho A.1 C.1 ∧ fsOK A.2.2.1.1 rho A.2.1 C.2.1 ∧ bOK A.2.2.1 rho ∧ pOK A.2.2.1.1 rho A.2.2.2.1 C.2.2.2.1 ∧ cOK A.2.2.1.1 rho A.2.2.2.2.1 ∧ gOK A.2.2.1.1 rho A.2.2.2.2.2 gv ∧ wOK T E C.2.2 ∧ sameI md I0 C.2.2.2.1
def agr (n : Nat) (rho rho' : Nat → Int) : Prop := ∀ x, x < n → rho' x = rho x
theorem agr.refl (n : Nat) (rho : Nat → Int) : agr n rho rho := fun _ _ => rfl
theorem agr.trans {n n' : Nat} {rho rho' rho'' : Nat → Int} (h : agr n rho rho') (h' : agr n' rho' rho'') (hn : n ≤ n') : agr n rho rho'' := fun x hx => (h' x (by omega)).trans (h x hx)
theorem vOK.mono {n n' : Nat} {rho rho' : Nat → Int} {a : aV} {v : Value} (hn : n ≤ n') (ha : agr n rho rho') (h : vOK n rho a v) : vOK n' rho' a v := by
  unfold vOK at h ⊢
  split
  · next x =>
    obtain ⟨h1, i, h2, h3⟩ := h
    exact ⟨h1.mono hn, i, h2, by rw [h3, fvl_agr ha h1]⟩
  · exact h
  · exact h
theorem lOK.mono {n n' : Nat} {rho rho' : Nat → Int} {ls : List (Nat × aV)} {l : mL} (hn : n ≤ n') (ha : agr n rho rho') (h : lOK n rho ls l) : lOK n' rho' ls l := by
  intro i a hm
  obtain ⟨v, h1, h2⟩ := h i a hm
  exact ⟨v, h1, h2.mono hn ha⟩
theorem sOK.mono {n n' : Nat} {rho rho' : Nat → Int} (hn : n ≤ n') (ha : agr n rho rho') : ∀ {st : List aV} {s : List Value}, sOK n rho st s → sOK n' rho' st s
  | [], [], _ => trivial
  | _ :: _, _ :: _, h => ⟨h.1.mono hn ha, sOK.mono hn ha h.2⟩
  | [], _ :: _, h => h.elim
  | _ :: _, [], h => h.elim
theorem fOK.mono {n n' : Nat} {rho rho' : Nat → Int} {f : aF} {g : mFr} (hn : n ≤ n') (ha : agr n rho rho') (h : fOK n rho f g) : fOK n' rho' f g := ⟨h.1, h.2.1, h.2.2.1.mono hn ha, h.2.2.2.mono hn ha⟩
theorem fsOK.mono {n n' : Nat} {rho rho' : Nat → Int} (hn : n ≤ n') (ha : agr n rho rho') : ∀ {fs : List aF} {gs : List mFr}, fsOK n rho fs gs → fsOK n' rho' fs gs
  | [], [], _ => trivial
  | _ :: _, _ :: _, h => ⟨h.1.mono hn ha, fsOK.mono hn ha h.2⟩
  | [], _ :: _, h => h.elim
  | _ :: _, [], h => h.elim
theorem pOK.mono {n n' : Nat} {rho rho' : Nat → Int} {P : aP} {I : Nat → Nat → Int32} (hn : n ≤ n') (ha : agr n rho rho') (h : pOK n rho P I) : pOK n' rho' P I := by
  intro e he
  obtain ⟨h1, h2, h3, h4⟩ := h e he
  exact ⟨h1.mono hn, h2.mono hn, by rw [fvl_agr ha h1]; exact h3, by rw [fvl_agr ha h1, fvl_agr ha h2]; exact h4⟩
theorem cOK.mono {n n' : Nat} {rho rho' : Nat → Int} {F : List aI} (hn : n ≤ n') (ha : agr n rho rho') (h : cOK n rho F) : cOK n' rho' F := by
  intro f hf
  obtain ⟨h1, h2⟩ := h f hf
  exact ⟨h1.mono hn, by rw [fvl_agr ha h1]; exact h2⟩
theorem gOK.mono {n n' : Nat} {rho rho' : Nat → Int} (hn : n ≤ n') (ha : agr n rho rho') : ∀ {G : List aI} {gv : List Int}, gOK n rho G gv → gOK n' rho' G gv
  | [], [], _ => trivial
  | _ :: _, _ :: _, h => ⟨⟨h.1.1.mono hn, by rw [fvl_agr ha h.1.1]; exact h.1.2⟩, gOK.mono hn ha h.2⟩
  | [], _ :: _, h => h.elim
  | _ :: _, [], h => h.elim
theorem fsOK.len {n : Nat} {rho : Nat → Int} : ∀ {fs : List aF} {gs : List mFr}, fsOK n rho fs gs → fs.length = gs.length
  | [], [], _ => rfl
  | _ :: _, _ :: _, h => by rw [List.length_cons, List.length_cons, fsOK.len h.2]
  | [], _ :: _, h => h.elim
  | _ :: _, [], h => h.elim
/-! ints -/
theorem i32b (i : Int32) : lo32 ≤ i.toInt ∧ i.toInt ≤ hi32 := by
  have h1 := i.le_toInt
  have h2 := i.toInt_lt
  unfold lo32 hi32
  omega
theorem in32_iff {l h : Int} : in32 l h = true ↔ lo32 ≤ l ∧ h ≤ hi32 := by
  unfold in32
  rw [Bool.and_eq_true, ile_iff, ile_iff]
theorem bm32 {x : Int} (h1 : lo32 ≤ x) (h2 : x ≤ hi32) : x.bmod (2 ^ 32) = x := by
  unfold lo32 at h1
  unfold hi32 at h2
  exact Int.bmod_eq_of_le (by omega) (by omega)
theorem gtv_ok {B : aB} {rho : Nat → Int} {x : Nat} (hB : bOK B rho) (hx : x < B.1) : (gtv B x).1 ≤ rho x ∧ rho x ≤ (gtv B x).2 := by
  unfold gtv
  split
  · next e he =>
    have h1 := List.find?_some he
    have h2 : e.1 = x := Nat.eq_of_beq_eq_true h1
    obtain ⟨-, h3, h4⟩ := hB.2 e (List.mem_of_find?_eq_some he)
    rw [h2] at h3 h4
    exact ⟨h3, h4⟩
  · exact hB.1 x hx
theorem mul_bd {l h x k : Int} (h1 : l ≤ x) (h2 : x ≤ h) : (l * k ≤ x * k ∧ x * k ≤ h * k) ∨ (h * k ≤ x * k ∧ x * k ≤ l * k) := by
  rcases Int.le_total 0 k with hk | hk
  · exact Or.inl ⟨Int.mul_le_mul_of_nonneg_right h1 hk, Int.mul_le_mul_of_nonneg_right h2 hk⟩
  · exact Or.inr ⟨Int.mul_le_mul_of_nonpos_right h2 hk, Int.mul_le_mul_of_nonpos_right h1 hk⟩
theorem ilo_ok {B : aB} {rho : Nat → Int} (hB : bOK B rho) : ∀ {l : aL}, (∀ e ∈ l, e.1 < B.1) → ilo B l ≤ fev rho l ∧ fev rho l ≤ ihi B l
  | [], _ => ⟨Int.le_refl _, Int.le_refl _⟩
  | e :: l, h => by
    have ih := ilo_ok hB (l := l) (fun e he => h e (List.mem_cons_of_mem _ he))
    have hg := gtv_ok hB (h e List.mem_cons_self)
    unfold ilo ihi fev
    cases c : ile 0 e.2 with
    | true =>
      have c := ile_iff.mp c
      simp only [cond_true]
      have a1 := Int.mul_le_mul_of_nonneg_left hg.1 c
      have a2 := Int.mul_le_mul_of_nonneg_left hg.2 c
      omega
    | false =>
      have c : e.2 ≤ 0 := by
        rcases Int.le_total 0 e.2 with q | q
        · rw [ile_iff.mpr q] at c; cases c
        · exact q
      simp only [cond_false]
      have a1 := Int.mul_le_mul_of_nonpos_right hg.1 c
      have a2 := Int.mul_le_mul_of_nonpos_right hg.2 c
      rw [Int.mul_comm _ e.2, Int.mul_comm _ e.2] at a1 a2
      omega
theorem ivf_ok {B : aB} {rho : Nat → Int} {a : aI} (hB : bOK B rho) (ha : nb B.1 a) : (ivl B a).1 ≤ fvl rho a ∧ fvl rho a ≤ (ivl B a).2 := by
  have h := ilo_ok hB ha
  unfold ivl fvl
  dsimp only
  omega
theorem ivl_ok {B : aB} {rho : Nat → Int} {x : aI} {i : Int32} (hB : bOK B rho) (hx : nb B.1 x) (hi : i.toInt = fvl rho x) : (ivl B x).1 ≤ i.toInt ∧ i.toInt ≤ (ivl B x).2 := by
  rw [hi]
  exact ivf_ok hB hx
theorem nng_ok {B : aB} {rho : Nat → Int} {a : aI} (hB : bOK B rho) (ha : nb B.1 a) (h : nng B a = true) : 0 ≤ fvl rho a := by
  have h1 := ilo_ok hB ha
  unfold nng at h
  have h := ile_iff.mp h
  unfold fvl
  omega
theorem prv_ok {B : aB} {rho : Nat → Int} {F : List aI} {a : aI} (hB : bOK B rho) (hF : cOK B.1 rho F) (ha : nb B.1 a) (h : prv B F a = true) : 0 ≤ fvl rho a := by
  unfold prv prvF at h
  rw [Bool.or_eq_true, Bool.or_eq_true, Bool.or_eq_true, Bool.and_eq_true] at h
  rcases h with h | h | h | h
  · exact nng_ok hB ha h
  · obtain ⟨f, hf, h⟩ := List.any_eq_true.mp h
    have h1 := hF f (List.mem_filter.mp hf).1
    have h2 := nng_ok hB (nb_sb ha h1.1) h
    rw [fvl_sb] at h2
    omega
  · obtain ⟨f, hf, h⟩ := List.any_eq_true.mp h
    unfold prvG at h
    obtain ⟨g, hg, h⟩ := List.any_eq_true.mp h
    rw [Bool.and_eq_true] at h
    have h1 := hF f (List.mem_filter.mp hf).1
    have h3 := hF g hg
    have h2 := nng_ok hB (nb_sb (nb_sb ha h1.1) h3.1) h.2
    rw [fvl_sb, fvl_sb] at h2
    omega
  · obtain ⟨f, hf, h⟩ := List.any_eq_true.mp h.2
    have h1 := hF f hf
    have h2 := nng_ok hB (nb_sb ha (nb_sc h1.1)) h
    rw [fvl_sb, fvl_sc] at h2
    omega
theorem rf1_ok {B : aB} {rho : Nat → Int} {f : aI} (hB : bOK B rho) (hf : nb B.1 f) (h : 0 ≤ fvl rho f) : bOK (rf1 B f) rho ∧ (rf1 B f).1 = B.1 := by
  unfold rf1
  split
  · next e he =>
    have hx : e.1 < B.1 := hf e (by rw [he]; exact List.mem_singleton_self _)
    have hg := gtv_ok hB hx
    have hv : fvl rho f = f.1 + (e.2 * rho e.1 + 0) := by unfold fvl; rw [he]; rfl
    have one : ∀ l u : Int, l ≤ rho e.1 → rho e.1 ≤ u → bOK (B.1, (e.1, l, u) :: B.2) rho := by
      intro l u h1 h2
      refine ⟨hB.1, fun g hg' => ?_⟩
      rcases List.mem_cons.mp hg' with rfl | hg'
      · exact ⟨hx, h1, h2⟩
      · exact hB.2 g hg'
    cases c : ieq e.2 1 with
    | true =>
      have c := ieq_iff.mp c
      rw [c] at hv
      have m := @imax_le (gtv B e.1).1 (-f.1)
      exact ⟨one _ _ (by omega) hg.2, rfl⟩
    | false =>
      cases c2 : ieq e.2 (-1) with
      | true =>
        have c2 := ieq_iff.mp c2
        rw [c2] at hv
        have m := @imin_le (gtv B e.1).2 f.1
        exact ⟨one _ _ hg.1 (by omega), rfl⟩
      | false => exact ⟨hB, rfl⟩
  · exact ⟨hB, rfl⟩
theorem rfF_ok {rho : Nat → Int} : ∀ {F : List aI} {B : aB}, bOK B rho → (∀ f ∈ F, nb B.1 f ∧ 0 ≤ fvl rho f) → bOK (rfF B F) rho ∧ (rfF B F).1 = B.1
  | [], B, hB, _ => ⟨hB, rfl⟩
  | f :: F, B, hB, h => by
    have h1 := h f List.mem_cons_self
    obtain ⟨a1, a2⟩ := rf1_ok hB h1.1 h1.2
    obtain ⟨b1, b2⟩ := rfF_ok (F := F) a1 (fun g hg => by rw [a2]; exact h g (List.mem_cons_of_mem _ hg))
    exact ⟨b1, b2.trans a2⟩
theorem btw_ok {B : aB} {rho : Nat → Int} {F : List aI} {a : aI} {l h : Int} (hB : bOK B rho) (hF : cOK B.1 rho F) (ha : nb B.1 a) (hb : btw B F a l h = true) : l ≤ fvl rho a ∧ fvl rho a ≤ h := by
  unfold btw at hb
  rw [Bool.or_eq_true, Bool.and_eq_true, Bool.and_eq_true] at hb
  rcases hb with hb | hb
  · have h1 := ilo_ok hB ha
    have h2 := ile_iff.mp hb.1
    have h3 := ile_iff.mp hb.2
    unfold fvl
    omega
  have h1 := prv_ok hB hF (nb_sb ha nb_K) hb.1
  have h2 := prv_ok hB hF (nb_sb nb_K ha) hb.2
  rw [fvl_sb, fvl_K] at h1 h2
  omega
theorem rfn_ok {B : aB} {rho : Nat → Int} {x : aI} {i : Int32} {lo up : Int} (hB : bOK B rho) (hx : nb B.1 x) (hi : i.toInt = fvl rho x) (h1 : lo ≤ i.toInt) (h2 : i.toInt ≤ up) : ∃ B', rfn B x lo up = some B' ∧ bOK B' rho ∧ B'.1 = B.1 := by
  have hv := ivl_ok hB hx hi
  unfold rfn
  split
  next l h he =>
  rw [he] at hv
  dsimp only at hv
  cases hc : (ile lo l && ile h up) with
  | true => exact ⟨B, rfl, hB, rfl⟩
  | false =>
    have m1 := @imax_le l lo
    have m2 := @imin_le h up
    have h3 : ile (imax l lo) (imin h up) = true := ile_iff.mpr (by omega)
    rw [h3]
    simp only [cond_false, cond_true]
    split
    · next e hl =>
      cases c : ieq e.2 1 with
      | false => exact ⟨B, rfl, hB, rfl⟩
      | true =>
        have c := ieq_iff.mp c
        refine ⟨_, rfl, ⟨hB.1, fun f hf => ?_⟩, rfl⟩
        rcases List.mem_cons.mp hf with rfl | hf
        · have hvx : fvl rho x = x.1 + rho e.1 := by
            unfold fvl
            rw [hl]
            simp only [fev]
            rw [c, Int.one_mul]
            omega
          refine ⟨hx e (by rw [hl]; exact List.mem_cons_self), ?_, ?_⟩ <;> dsimp only <;> omega
        · exact hB.2 f hf
    · exact ⟨B, rfl, hB, rfl⟩
theorem rfL_ok {B : aB} {rho : Nat → Int} {x : aI} {i : Int32} {lo up : Int} {F : List aI} (hB : bOK B rho) (hx : nb B.1 x) (hi : i.toInt = fvl rho x) (hF : cOK B.1 rho F) (h1 : lo ≤ i.toInt) (h2 : i.toInt ≤ up) : ∃ b ∈ rfL B x lo up F, bOK b.1 rho ∧ b.1.1 = B.1 ∧ cOK B.1 rho b.2 := by
  obtain ⟨B', e, h⟩ := rfn_ok hB hx hi h1 h2
  unfold rfL
  rw [e]
  exact ⟨_, List.mem_singleton_self _, h.1, h.2, hF⟩
theorem rfn2_ok {B : aB} {rho : Nat → Int} {x y : aI} {i k : Int32} {lo up lo' up' : Int} {F : List aI} (hB : bOK B rho) (hx : nb B.1 x) (hy : nb B.1 y) (hi : i.toInt = fvl rho x) (hk : k.toInt = fvl rho y) (hF : cOK B.1 rho F) (h1 : lo ≤ i.toInt) (h2 : i.toInt ≤ up) (h3 : lo' ≤ k.toInt) (h4 : k.toInt ≤ up') : ∃ b ∈ rfn2 B x lo up y lo' up' F, bOK b.1 rho ∧ b.1.1 = B.1 ∧ cOK B.1 rho b.2 := by
  obtain ⟨B', e, hB', hn⟩ := rfn_ok hB hx hi h1 h2
  obtain ⟨B'', e2, hB'', hn2⟩ := rfn_ok hB' (by rw [hn]; exact hy) hk h3 h4
  unfold rfn2
  rw [e]
  dsimp only
  rw [e2]
  exact ⟨_, List.mem_singleton_self _, hB'', by dsimp only; omega, hF⟩
theorem addF_ok {n : Nat} {rho : Nat → Int} {F : List aI} {d : aI} (hF : cOK n rho F) (hd : nb n d) (h : 0 ≤ fvl rho d) : cOK n rho (addF d F) := by
  unfold addF
  split
  · exact hF
  · exact hF
  · intro f hf
    rcases List.mem_cons.mp hf with rfl | hf
    · exact ⟨hd, h⟩
    · exact hF f hf
theorem nec_ok {B : aB} {rho : Nat → Int} {F : List aI} {a b : aI} (hB : bOK B rho) (hF : cOK B.1 rho F) (ha : nb B.1 a) (hb : nb B.1 b) (h : ¬ fvl rho a = fvl rho b) : ∃ c ∈ nec B F a b, bOK c.1 rho ∧ c.1.1 = B.1 ∧ cOK B.1 rho c.2 := by
  unfold nec
  cases c : prv B F (nsb b a) with
  | true =>
    have h1 := prv_ok hB hF (nb_sb hb ha) c
    rw [fvl_sb] at h1
    refine ⟨_, List.mem_singleton_self _, hB, rfl, addF_ok hF (nb_sb (nb_sb hb ha) nb_K) ?_⟩
    rw [fvl_sb, fvl_sb, fvl_K]
    omega
  | false =>
    simp only [cond_false]
    cases c2 : prv B F (nsb a b) with
    | true =>
      have h1 := prv_ok hB hF (nb_sb ha hb) c2
      rw [fvl_sb] at h1
      refine ⟨_, List.mem_singleton_self _, hB, rfl, addF_ok hF (nb_sb (nb_sb ha hb) nb_K) ?_⟩
      rw [fvl_sb, fvl_sb, fvl_K]
      omega
    | false => exact ⟨_, List.mem_singleton_self _, hB, rfl, hF⟩
theorem acm0_ok {spl : Bool} {c : Jvm.ClassFile.Cond} {B : aB} {F : List aI} {rho : Nat → Int} {x y : aI} {i k : Int32} (hB : bOK B rho) (hF : cOK B.1 rho F) (hx : nb B.1 x) (hy : nb B.1 y) (hi : i.toInt = fvl rho x) (hk : k.toInt = fvl rho y) (h : icm c i.toInt k.toInt) : ∃ b ∈ acm0 spl c B F x y, bOK b.1 rho ∧ b.1.1 = B.1 ∧ cOK B.1 rho b.2 := by
  have v1 := ivl_ok hB hx hi
  have v2 := ivl_ok hB hy hk
  have bi := i32b i
  have bk := i32b k
  have f1 : fvl rho (nsb x y) = i.toInt - k.toInt := by rw [fvl_sb]; omega
  have f2 : fvl rho (nsb y x) = k.toInt - i.toInt := by rw [fvl_sb]; omega
  have n1 := nb_sb hx hy
  have n2 := nb_sb hy hx
  unfold acm0
  split
  next la ha lb hb e1 e2 =>
  rw [e1] at v1
  rw [e2] at v2
  dsimp only at v1 v2
  cases c with
  | eq =>
    simp only [icm] at h
    exact rfn2_ok hB hx hy hi hk (addF_ok (addF_ok hF n2 (by omega)) n1 (by omega)) (by omega) (by omega) (by omega) (by omega)
  | lt =>
    simp only [icm] at h
    exact rfn2_ok hB hx hy hi hk (addF_ok hF (nb_sb n2 nb_K) (by rw [fvl_sb, fvl_K]; omega)) (by omega) (by omega) (by omega) (by omega)
  | ge =>
    simp only [icm] at h
    exact rfn2_ok hB hx hy hi hk (addF_ok hF n1 (by omega)) (by omega) (by omega) (by omega) (by omega)
  | gt =>
    simp only [icm] at h
    exact rfn2_ok hB hx hy hi hk (addF_ok hF (nb_sb n1 nb_K) (by rw [fvl_sb, fvl_K]; omega)) (by omega) (by omega) (by omega) (by omega)
  | le =>
    simp only [icm] at h
    exact rfn2_ok hB hx hy hi hk (addF_ok hF n2 (by omega)) (by omega) (by omega) (by omega) (by omega)
  | ne =>
    simp only [icm] at h
    dsimp only
    have triv : ∃ b ∈ [(B, F)], bOK b.1 rho ∧ b.1.1 = B.1 ∧ cOK B.1 rho b.2 := ⟨_, List.mem_singleton_self _, hB, rfl, hF⟩
    have hnec := nec_ok hB hF hx hy (by omega)
    cases c1 : ieq lb hb with
    | true =>
      have g1 := ieq_iff.mp c1
      simp only [cond_true]
      cases c2 : ieq la lb with
      | true =>
        have g2 := ieq_iff.mp c2
        exact rfL_ok hB hx hi hF (by omega) (by omega)
      | false =>
        simp only [cond_false]
        cases c3 : ieq ha hb with
        | true =>
          have g3 := ieq_iff.mp c3
          exact rfL_ok hB hx hi hF (by omega) (by omega)
        | false =>
          simp only [cond_false]
          cases c4 : (spl && ile la lb && ile lb ha) with
          | false => exact hnec
          | true =>
            simp only [cond_true]
            by_cases hlt : i.toInt < k.toInt
            · obtain ⟨B', m, r⟩ := rfL_ok (lo := lo32) (up := lb - 1) hB hx hi hF (by omega) (by omega)
              exact ⟨B', List.mem_append_left _ m, r⟩
            · obtain ⟨B', m, r⟩ := rfL_ok (lo := lb + 1) (up := hi32) hB hx hi hF (by omega) (by omega)
              exact ⟨B', List.mem_append_right _ m, r⟩
    | false =>
      simp only [cond_false]
      cases c2 : ieq la ha with
      | false => exact hnec
      | true =>
        have g2 := ieq_iff.mp c2
        simp only [cond_true]
        cases c3 : ieq lb la with
        | true =>
          have g3 := ieq_iff.mp c3
          exact rfL_ok hB hy hk hF (by omega) (by omega)
        | false =>
          simp only [cond_false]
          cases c4 : ieq hb la with
          | true =>
            have g4 := ieq_iff.mp c4
            exact rfL_ok hB hy hk hF (by omega) (by omega)
          | false => exact triv
theorem prv1_ok {B : aB} {rho : Nat → Int} {F : List aI} {a : aI} (hB : bOK B rho) (hF : cOK B.1 rho F) (ha : nb B.1 a) (h : prv1 B F a = true) : 0 ≤ fvl rho a := by
  obtain ⟨f, hf, h⟩ := List.any_eq_true.mp h
  have h1 := hF f hf
  have h2 := nng_ok hB (nb_sb ha h1.1) h
  rw [fvl_sb] at h2
  omega
theorem acm_ok {spl : Bool} {c : Jvm.ClassFile.Cond} {B : aB} {F : List aI} {rho : Nat → Int} {x y : aI} {i k : Int32} (hB : bOK B rho) (hF : cOK B.1 rho F) (hx : nb B.1 x) (hy : nb B.1 y) (hi : i.toInt = fvl rho x) (hk : k.toInt = fvl rho y) (h : icm c i.toInt k.toInt) : ∃ b ∈ acm spl c B F x y, bOK b.1 rho ∧ b.1.1 = B.1 ∧ cOK B.1 rho b.2 := by
  unfold acm
  cases hc : infs c B F x y with
  | false => exact acm0_ok hB hF hx hy hi hk h
  | true =>
    exfalso
    have n1 := nb_sb hx hy
    have n2 := nb_sb hy hx
    have key : ∀ {a : aI}, nb B.1 a → prv1 B F a = true → 0 ≤ fvl rho a := fun ha hp => prv1_ok hB hF ha hp
    unfold infs at hc
    cases c with
    | lt => have := key n1 hc; rw [fvl_sb] at this; simp only [icm] at h; omega
    | ge => have := key (nb_sb n2 nb_K) hc; rw [fvl_sb, fvl_sb, fvl_K] at this; simp only [icm] at h; omega
    | gt => have := key n2 hc; rw [fvl_sb] at this; simp only [icm] at h; omega
    | le => have := key (nb_sb n1 nb_K) hc; rw [fvl_sb, fvl_sb, fvl_K] at this; simp only [icm] at h; omega
    | eq =>
      simp only [icm] at h
      rcases (Bool.or_eq_true _ _).mp hc with hc | hc
      · have := key (nb_sb n1 nb_K) hc; rw [fvl_sb, fvl_sb, fvl_K] at this; omega
      · have := key (nb_sb n2 nb_K) hc; rw [fvl_sb, fvl_sb, fvl_K] at this; omega
    | ne => cases hc
theorem ngc_icm {c : Jvm.ClassFile.Cond} {a b : Int} (h : ¬ icm c a b) : icm (ngc c) a b := by
  cases c <;> simp only [icm, ngc] at h ⊢ <;> omega
/-- a new number -/
def nOK (B : aB) (rho : Nat → Int) (B' : aB) (z : aI) (i : Int32) : Prop := ∃ rho', agr B.1 rho rho' ∧ bOK B' rho' ∧ B.1 ≤ B'.1 ∧ nb B'.1 z ∧ i.toInt = fvl rho' z
theorem nOK_same {B : aB} {rho : Nat → Int} {z : aI} {i : Int32} (hB : bOK B rho) (hz : nb B.1 z) (h : i.toInt = fvl rho z) : nOK B rho B z i := ⟨rho, agr.refl _ _, hB, Nat.le_refl _, hz, h⟩
theorem mkv_ok {B : aB} {rho : Nat → Int} {l h : Int} {i : Int32} (hB : bOK B rho) (h1 : l ≤ i.toInt) (h2 : i.toInt ≤ h) : nOK B rho (mkv B l h).2 (mkv B l h).1 i := by
  unfold mkv
  cases c : ieq l h with
  | true =>
    have := ieq_iff.mp c
    refine nOK_same hB nb_K ?_
    simp only [cond_true]
    rw [fvl_K]
    omega
  | false =>
    refine ⟨fun x => if x = B.1 then i.toInt else rho x, fun x hx => if_neg (by omega), ⟨fun x hx => ?_, fun e he => ?_⟩, Nat.le_succ _, nb_V (Nat.lt_succ_self _), ?_⟩
    · show lo32 ≤ (if x = B.1 then i.toInt else rho x) ∧ (if x = B.1 then i.toInt else rho x) ≤ hi32
      split
      · exact i32b i
      · exact hB.1 x (by have hx : x < B.1 + 1 := hx; omega)
    · rcases List.mem_cons.mp he with rfl | he
      · show B.1 < B.1 + 1 ∧ l ≤ (if B.1 = B.1 then i.toInt else rho B.1) ∧ (if B.1 = B.1 then i.toInt else rho B.1) ≤ h
        rw [if_pos rfl]
        exact ⟨Nat.lt_succ_self _, h1, h2⟩
      · obtain ⟨q1, q2, q3⟩ := hB.2 e he
        show e.1 < B.1 + 1 ∧ e.2.1 ≤ (if e.1 = B.1 then i.toInt else rho e.1) ∧ (if e.1 = B.1 then i.toInt else rho e.1) ≤ e.2.2
        rw [if_neg (by omega)]
        exact ⟨by omega, q2, q3⟩
    · simp only [cond_false]
      rw [fvl_V, if_pos rfl]
theorem mkv_top {B : aB} {rho : Nat → Int} (i : Int32) (hB : bOK B rho) : nOK B rho (mkv B lo32 hi32).2 (mkv B lo32 hi32).1 i := mkv_ok hB (i32b i).1 (i32b i).2
/-- a form that is an int: what the int is, if it lies within bounds -/
theorem mkf_ok {B : aB} {F : List aI} {rho : Nat → Int} {e : aI} {i : Int32} (hB : bOK B rho) (hF : cOK B.1 rho F) (he : nb B.1 e) (hi : lo32 ≤ fvl rho e → fvl rho e ≤ hi32 → i.toInt = fvl rho e) : nOK B rho (mkf B F e).2 (mkf B F e).1 i := by
  have hv := ivf_ok hB he
  unfold mkf
  cases c : in32 (ivl B e).1 (ivl B e).2 with
  | true =>
    have c := in32_iff.mp c
    exact nOK_same hB he (hi (by omega) (by omega))
  | false =>
    simp only [cond_false]
    cases c2 : btw B F e lo32 hi32 with
    | true =>
      have c2 := btw_ok hB hF he c2
      exact nOK_same hB he (hi c2.1 c2.2)
    | false => exact mkv_top i hB
theorem mul4 {la ha lb hb x y : Int} (h1 : la ≤ x) (h2 : x ≤ ha) (h3 : lb ≤ y) (h4 : y ≤ hb) : (mxn4 (la * lb) (la * hb) (ha * lb) (ha * hb)).1 ≤ x * y ∧ x * y ≤ (mxn4 (la * lb) (la * hb) (ha * lb) (ha * hb)).2 := by
  have a1 := mul_bd (k := y) h1 h2
  have a2 := mul_bd (k := la) h3 h4
  have a3 := mul_bd (k := ha) h3 h4
  rw [Int.mul_comm lb la, Int.mul_comm y la, Int.mul_comm hb la] at a2
  rw [Int.mul_comm lb ha, Int.mul_comm y ha, Int.mul_comm hb ha] at a3
  unfold mxn4
  dsimp only
  have m1 := @imin_le (la * lb) (la * hb)
  have m2 := @imin_le (ha * lb) (ha * hb)
  have m3 := @imin_le (imin (la * lb) (la * hb)) (imin (ha * lb) (ha * hb))
  have m4 := @imax_le (la * lb) (la * hb)
  have m5 := @imax_le (ha * lb) (ha * hb)
  have m6 := @imax_le (imax (la * lb) (la * hb)) (imax (ha * lb) (ha * hb))
  omega
