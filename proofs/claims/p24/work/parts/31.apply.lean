/-! ===== references that change: null, arrays of rows; the rule that is applied ===== -/
theorem rfO_tr {base xa : Nat} {o : Option Nat} : trv base xa (rfO o) = rfv base o := by cases o <;> rfl
theorem XW.aal {j : Nat} {M : mMt} {X : mX} {d mc ms : Nat} {Q : Option Value → mW → Prop} {pc q n : Nat} {l : mL} {r : List Value} {w : mW} {i : Int32} (hd : decode M.2.2.1 pc = .ok (.aaload, 1)) (h0 : w.1[q]? = some (.inl (.array .int, n))) (hin : inR i n = true) (K : XW j M X d mc ms Q (pc + 1, l, rfO (w.2.2.2 q i.toNatClampNeg) :: r, w)) : XW j M X d mc ms Q (pc, l, .int i :: .ref q :: r, w) := by
  intro D base xa p L e R s m args below meth c Z H locs cells slots lsA cA hC hfr hlo hce hsl hH hL hlv hret
  obtain ⟨hx, hb, hr, hml, hown, hts, hlkk, hnm, hKn, hX⟩ := id hC
  obtain ⟨hc, ht, -⟩ := hH.2.2 q _ h0
  have hr2 : ¬ i < 0 ∧ i.toNatClampNeg < n := by
    unfold inR at hin
    rw [Bool.and_eq_true] at hin
    exact ⟨of_decide_eq_true hin.1, of_decide_eq_true hin.2⟩
  have k := K D base xa p L e R s m args below meth c Z H locs cells slots lsA cA hC hfr hlo hce hsl hH hL hlv hret
  dsimp only at k ⊢
  rw [List.map_cons, rfO_tr] at k
  rw [List.map_cons, List.map_cons]
  exact W.aald (v := rfv base (w.2.2.2 q i.toNatClampNeg)) (ty := .array .int) hx hb hc (ht n _) rfl (fun q => by cases q) (by
    show ¬ (i < 0 ∨ (arrV _ _ _).slots.size ≤ _)
    rw [arrV_size]
    exact fun q => q.elim hr2.1 (fun z => absurd hr2.2 (Nat.not_lt.mpr z))) (by
    show (arrV _ _ _).slots[_]? = _
    rw [arrV_read _ _ hr2.2]
    rfl) rfl rfl hd k
theorem XW.nul {j : Nat} {M : mMt} {X : mX} {d mc ms : Nat} {Q : Option Value → mW → Prop} {pc : Nat} {l : mL} {r : List Value} {w : mW} (hd : decode M.2.2.1 pc = .ok (.aconst_null, 1)) (K : XW j M X d mc ms Q (pc + 1, l, .null :: r, w)) : XW j M X d mc ms Q (pc, l, r, w) := by
  intro D base xa p L e R s m args below meth c Z H locs cells slots lsA cA hC hfr hlo hce hsl hH hL hlv hret
  exact lv_null hC.1 hC.2.1 hd (K D base xa p L e R s m args below meth c Z H locs cells slots lsA cA hC hfr hlo hce hsl hH hL hlv hret)
theorem XW.asN {j : Nat} {M : mMt} {X : mX} {d mc ms : Nat} {Q : Option Value → mW → Prop} {pc : Nat} {k : Fin 4} {l : mL} {r : List Value} {w : mW} (hd : decode M.2.2.1 pc = .ok (.astore_n k, 1)) (hk : (k : Nat) < M.2.2.2.1) (K : XW j M X d mc ms Q (pc + 1, sto1 l k .null, r, w)) : XW j M X d mc ms Q (pc, l, .null :: r, w) := by
  intro D base xa p L e R s m args below meth c Z H locs cells slots lsA cA hC hfr hlo hce hsl hH hL hlv hret
  exact lv_astore_nN hC.1 hC.2.1 hd rfl hlv hk (trl_sto1 base xa l k .null).symm (fun ls' h' => K D base xa p L e R s m args below meth c Z H locs cells slots ls' cA hC hfr hlo hce hsl hH hL h' hret)
theorem XW.alN {j : Nat} {M : mMt} {X : mX} {d mc ms : Nat} {Q : Option Value → mW → Prop} {pc : Nat} {k : Fin 4} {l : mL} {r : List Value} {w : mW} (hd : decode M.2.2.1 pc = .ok (.aload_n k, 1)) (hk : lkp l k = some .null) (K : XW j M X d mc ms Q (pc + 1, l, .null :: r, w)) : XW j M X d mc ms Q (pc, l, r, w) := by
  intro D base xa p L e R s m args below meth c Z H locs cells slots lsA cA hC hfr hlo hce hsl hH hL hlv hret
  exact lv_aload_nN hC.1 hC.2.1 hd rfl (lkp_at hlv hk) (K D base xa p L e R s m args below meth c Z H locs cells slots lsA cA hC hfr hlo hce hsl hH hL hlv hret)
theorem XW.inN {j : Nat} {M : mMt} {X : mX} {d mc ms : Nat} {Q : Option Value → mW → Prop} {pc : Nat} {off : Int} {l : mL} {r : List Value} {w : mW} (hd : decode M.2.2.1 pc = .ok (.ifnonnull off, 3)) (K : XW j M X d mc ms Q (pc + 3, l, r, w)) : XW j M X d mc ms Q (pc, l, .null :: r, w) := by
  intro D base xa p L e R s m args below meth c Z H locs cells slots lsA cA hC hfr hlo hce hsl hH hL hlv hret
  exact lv_ifnonnullN hC.1 hC.2.1 hd (K D base xa p L e R s m args below meth c Z H locs cells slots lsA cA hC hfr hlo hce hsl hH hL hlv hret)
theorem XW.inR2 {j : Nat} {M : mMt} {X : mX} {d mc ms : Nat} {Q : Option Value → mW → Prop} {pc tgt z : Nat} {off : Int} {l : mL} {r : List Value} {w : mW} (hd : decode M.2.2.1 pc = .ok (.ifnonnull off, 3)) (ht : (pc : Int) + off = (tgt : Int)) (K : XW j M X d mc ms Q (tgt, l, r, w)) : XW j M X d mc ms Q (pc, l, .ref z :: r, w) := by
  intro D base xa p L e R s m args below meth c Z H locs cells slots lsA cA hC hfr hlo hce hsl hH hL hlv hret
  exact lv_ifnonnull hC.1 hC.2.1 hd ht (K D base xa p L e R s m args below meth c Z H locs cells slots lsA cA hC hfr hlo hce hsl hH hL hlv hret)
theorem lkp_hd1 {i : Nat} {v : Value} {l : mL} : lkp (sto1 l i v) i = some v := by
  unfold sto1
  rw [lkp_cons, if_pos (by simp)]
theorem lkp_ne1 {i k : Nat} {v u : Value} {l : mL} (hik : ¬ k = i) (hk1 : u.category = 1) (h : lkp l k = some u) : lkp (sto1 l i v) k = some u := by
  unfold sto1
  rw [lkp_cons, if_neg (by simp; omega)]
  have : ∀ l : mL, lkp l k = some u → lkp (l.filter (fun q => !(q.1 == i) && !(q.1 + 1 == i && q.2.category == 2))) k = some u := by
    intro l
    induction l with
    | nil => intro h; cases h
    | cons q l ih =>
      intro h
      rw [lkp_cons] at h
      by_cases c : (q.1 == k) = true
      · rw [if_pos c] at h
        cases h
        have e : q.1 = k := by simpa using c
        rw [List.filter_cons_of_pos (by rw [e, hk1]; simp [hik]), lkp_cons, if_pos c]
      · rw [if_neg c] at h
        rw [List.filter_cons]
        split
        · rw [lkp_cons, if_neg c]; exact ih h
        · exact ih h
  exact this l h
theorem fl_ldI {w : mW} {q c k : Nat} {r : List Value} (h0 : w.1[q]? = some (.inr c)) (hk : k < (flds c).length) (ht : tk (ftyOf (flds c) k) = 0) : ldf w c k (.ref q :: r) = some (.int (w.2.1 q k) :: r) := by
  unfold ldf
  dsimp only
  rw [h0]
  dsimp only
  rw [if_pos ⟨rfl, hk⟩, ht]
  rfl
theorem and255 (x : Int32) : 0 ≤ (x &&& 255).toInt ∧ (x &&& 255).toInt ≤ 255 := by
  exact and32r (y := 255) (by decide)
theorem al2 {l : mL} {x : Nat} (h : lkp l 2 = some (.ref x)) : psh (.aload_n 2) l = some (.ref x) := by
  show (match lkp l 2 with
    | some (Value.ref x) => some (Value.ref x)
    | some (Value.retAddr x) => some (Value.retAddr x)
    | _ => none) = some (Value.ref x)
  rw [h]
/-- the rows of rules as they must be: what a world's cells and references say of them -/
def rowsE (qS : Nat) (sh : List mE) (R : Nat → Nat → Option Nat) : Prop := ∀ k, k < 20 → R qS k = none ∨ ∃ z n, R qS k = some z ∧ sh[z]? = some (.inl (.int, n)) ∧ n ≤ 240
theorem ap_len {n : Nat} (h : n ≤ 240) : (Int32.ofNat n).toInt = n := by
  exact Int32.toInt_ofNat_of_lt (by omega)
/-- the loop over a row: take by its contract, the end at 101 -/
theorem XF.apL {T : aT} {E : mW → Prop} {dd qR z n : Nat} {Q : Option Value → mW → Prop} {st : List Value} {fs : List mFr} {d1 : Nat} {md : aM} {res : Unit} {r1 r2 : Int × Int} {sh : List mE} {R : Nat → Nat → Option Nat}
    (hK : Kc T E 123 (d1, [.inr (some qR), .inl r1, .inl r2], none, md, [], [])) (hr1 : r1.1 ≤ 0 ∧ 255 ≤ r1.2) (hr2 : r2.1 ≤ lo32 ∧ hi32 ≤ r2.2) (hd : d1 + 1 + fs.length ≤ dd) (hcat : (st.map fun v => v.category).sum ≤ 8)
    (hEs : ∀ w, E w → w.1 = sh ∧ w.2.2.2 = R) (hq : sh[qR]? = some (.inr 6)) (hz : sh[z]? = some (.inl (.int, n))) (hn : n ≤ 240) {I0 : Nat → Nat → Int32}
    (K : ∀ (l : mL) (w : mW), lkp l 0 = some (.ref qR) → wOK T E w → sameI md I0 w.2.1 → XF none dd 0 0 Q (121, 101, l, st) fs w) :
    ∀ (m : Nat) (l : mL) (w : mW) (i : Int32), lkp l 0 = some (.ref qR) → lkp l 2 = some (.ref z) → lkp l 3 = some (.int i) → 0 ≤ i.toInt → i.toInt ≤ n → n - i.toInt.toNat ≤ m → wOK T E w → sameI md I0 w.2.1 → XF none dd 0 0 Q (121, 72, l, st) fs w := by
  intro m
  induction m with
  | zero => ?_
  | succ m ih => ?_
  all_goals
    intro l w i h0 h2 h3 hi0 hi1 hm hw hI
    have hsh := (hEs w hw.2.2.2).1
    have hwz : w.1[z]? = some (.inl (.int, n)) := by rw [hsh]; exact hz
    have hwq : w.1[qR]? = some (.inr 6) := by rw [hsh]; exact hq
    have hl := ap_len hn
    refine XF.fam (pc := 72) (pc' := 73) (ls' := l) (st' := .int i :: st) (w' := w) (M := mr_121) rfl (show mcode 121 72 = some (72, .iload_n 3, 1, 0, 0, 0, _) from rfl) (Or.inl ⟨.int i, il3 h3, rfl⟩) ?_
    refine XF.fam (pc := 73) (pc' := 74) (ls' := l) (st' := .ref z :: .int i :: st) (w' := w) (M := mr_121) rfl (show mcode 121 73 = some (73, .aload_n 2, 1, 0, 0, 0, _) from rfl) (Or.inl ⟨.ref z, al2 h2, rfl⟩) ?_
    refine XF.fam (pc := 74) (pc' := 75) (ls' := l) (st' := .int (Int32.ofNat n) :: .int i :: st) (w' := w) (M := mr_121) rfl (show mcode 121 74 = some (74, .arraylength, 1, 0, 0, 0, _) from rfl) (Or.inr (Or.inr (Or.inl ⟨_, by simp [lda, hwz], rfl⟩))) ?_
    by_cases c : bcmp .ge i (Int32.ofNat n) = true
    · refine XF.fam (pc := 75) (pc' := 101) (ls' := l) (st' := st) (w' := w) (M := mr_121) rfl (show mcode 121 75 = some (75, .if_icmp .ge 26, 3, 101, 0, 0, _) from rfl) (Or.inr (Or.inl ⟨101, st, by simp [brn, c], rfl⟩)) ?_
      exact K l w h0 hw hI
    have hlt : i.toInt < n := by
      simp only [bcmp, decide_eq_true_eq, Int32.le_iff_toInt_le] at c
      omega
  · omega
  · have hin : inR i n = true := inR_of hi0 hlt
    refine XF.fam (pc := 75) (pc' := 78) (ls' := l) (st' := st) (w' := w) (M := mr_121) rfl (show mcode 121 75 = some (75, .if_icmp .ge 26, 3, 101, 0, 0, _) from rfl) (Or.inr (Or.inl ⟨78, st, by simp [brn, c], rfl⟩)) ?_
    refine XF.fam (pc := 78) (pc' := 79) (ls' := l) (st' := .ref qR :: st) (w' := w) (M := mr_121) rfl (show mcode 121 78 = some (78, .aload_n 0, 1, 0, 0, 0, _) from rfl) (Or.inl ⟨.ref qR, al0 h0, rfl⟩) ?_
    refine XF.fam (pc := 79) (pc' := 80) (ls' := l) (st' := .ref z :: .ref qR :: st) (w' := w) (M := mr_121) rfl (show mcode 121 79 = some (79, .aload_n 2, 1, 0, 0, 0, _) from rfl) (Or.inl ⟨.ref z, al2 h2, rfl⟩) ?_
    refine XF.fam (pc := 80) (pc' := 81) (ls' := l) (st' := .int i :: .ref z :: .ref qR :: st) (w' := w) (M := mr_121) rfl (show mcode 121 80 = some (80, .iload_n 3, 1, 0, 0, 0, _) from rfl) (Or.inl ⟨.int i, il3 h3, rfl⟩) ?_
    refine XF.fam (pc := 81) (pc' := 82) (ls' := l) (st' := .int (w.2.1 z i.toNatClampNeg) :: .ref qR :: st) (w' := w) (M := mr_121) rfl (show mcode 121 81 = some (81, .iaload, 1, 0, 0, 0, _) from rfl) (Or.inr (Or.inr (Or.inl ⟨_, by simp [lda, hwz, aok, hin], rfl⟩))) ?_
    refine XF.fam (pc := 82) (pc' := 85) (ls' := l) (st' := .int 255 :: .int (w.2.1 z i.toNatClampNeg) :: .ref qR :: st) (w' := w) (M := mr_121) rfl (show mcode 121 82 = some (82, .sipush 255, 3, 0, 0, 0, _) from rfl) (Or.inl ⟨.int 255, rfl, rfl⟩) ?_
    refine XF.fam (pc := 85) (pc' := 86) (ls' := l) (st' := .int ((w.2.1 z i.toNatClampNeg) &&& 255) :: .ref qR :: st) (w' := w) (M := mr_121) rfl (show mcode 121 85 = some (85, .iand, 1, 0, 0, 0, _) from rfl) (Or.inr (Or.inr (Or.inr (Or.inr (Or.inr (Or.inl ⟨_, rfl, rfl⟩)))))) ?_
    refine XF.fam (pc := 86) (pc' := 87) (ls' := l) (st' := .ref z :: .int ((w.2.1 z i.toNatClampNeg) &&& 255) :: .ref qR :: st) (w' := w) (M := mr_121) rfl (show mcode 121 86 = some (86, .aload_n 2, 1, 0, 0, 0, _) from rfl) (Or.inl ⟨.ref z, al2 h2, rfl⟩) ?_
    refine XF.fam (pc := 87) (pc' := 88) (ls' := l) (st' := .int i :: .ref z :: .int ((w.2.1 z i.toNatClampNeg) &&& 255) :: .ref qR :: st) (w' := w) (M := mr_121) rfl (show mcode 121 87 = some (87, .iload_n 3, 1, 0, 0, 0, _) from rfl) (Or.inl ⟨.int i, il3 h3, rfl⟩) ?_
    refine XF.fam (pc := 88) (pc' := 89) (ls' := l) (st' := .int (w.2.1 z i.toNatClampNeg) :: .int ((w.2.1 z i.toNatClampNeg) &&& 255) :: .ref qR :: st) (w' := w) (M := mr_121) rfl (show mcode 121 88 = some (88, .iaload, 1, 0, 0, 0, _) from rfl) (Or.inr (Or.inr (Or.inl ⟨_, by simp [lda, hwz, aok, hin], rfl⟩))) ?_
    refine XF.fam (pc := 89) (pc' := 91) (ls' := l) (st' := .int 8 :: .int (w.2.1 z i.toNatClampNeg) :: .int ((w.2.1 z i.toNatClampNeg) &&& 255) :: .ref qR :: st) (w' := w) (M := mr_121) rfl (show mcode 121 89 = some (89, .bipush 8, 2, 0, 0, 0, _) from rfl) (Or.inl ⟨.int 8, rfl, rfl⟩) ?_
    refine XF.fam (pc := 91) (pc' := 92) (ls' := l) (st' := .int ((w.2.1 z i.toNatClampNeg) >>> (8 &&& 31)) :: .int ((w.2.1 z i.toNatClampNeg) &&& 255) :: .ref qR :: st) (w' := w) (M := mr_121) rfl (show mcode 121 91 = some (91, .ishr, 1, 0, 0, 0, _) from rfl) (Or.inr (Or.inr (Or.inr (Or.inr (Or.inr (Or.inl ⟨_, rfl, rfl⟩)))))) ?_
    have h255 : 0 ≤ ((w.2.1 z i.toNatClampNeg) &&& 255).toInt ∧ ((w.2.1 z i.toNatClampNeg) &&& 255).toInt ≤ 255 := and255 _
    have hv2 := i32b ((w.2.1 z i.toNatClampNeg) >>> (8 &&& 31))
    refine XF.callG (d' := d1) (av := [.ref qR, .int ((w.2.1 z i.toNatClampNeg) &&& 255), .int ((w.2.1 z i.toNatClampNeg) >>> (8 &&& 31))]) (rest := st) (Ma := mr_123) (M := mr_121) (a := 123) (Qc := Qk T E md none [] [.ref qR, .int ((w.2.1 z i.toNatClampNeg) &&& 255), .int ((w.2.1 z i.toNatClampNeg) >>> (8 &&& 31))] w.2.1) rfl (show mcode 121 92 = some (92, .invokevirtual 139, 3, 123, 0, 0, _) from rfl) rfl (by decide) (by decide) ?_ rfl rfl hcat (fun hf => hK _ w hw ⟨rfl, ⟨_, rfl, by omega, by omega⟩, ⟨_, rfl, by omega, by omega⟩, trivial⟩ (fun q hq => by cases hq) hf) hd (fun r w' hQ => ?_)
    · simp only [ckb, hwq]
      decide
    obtain ⟨f1, f2, f3, f4, -⟩ := hQ
    refine ⟨f1, ?_⟩
    obtain rfl : r = none := f4
    refine XF.fam (pc := 95) (pc' := 98) (ls' := sto1 l 3 (.int (i + Int32.ofInt 1))) (st' := st) (w' := w') (M := mr_121) rfl (show mcode 121 95 = some (95, .iinc 3 1, 3, 0, 0, 0, _) from rfl) (Or.inr (Or.inr (Or.inr (Or.inr (Or.inr (Or.inr (Or.inr (Or.inr (Or.inr ⟨3, 1, i, rfl, h3, by decide, rfl⟩))))))))) ?_
    refine XF.fam (pc := 98) (pc' := 72) (ls' := sto1 l 3 (.int (i + Int32.ofInt 1))) (st' := st) (w' := w') (M := mr_121) rfl (show mcode 121 98 = some (98, .goto (-26), 3, 72, 0, 0, _) from rfl) (Or.inr (Or.inl ⟨72, st, rfl, rfl⟩)) ?_
    have e1 : (i + Int32.ofInt 1).toInt = i.toInt + 1 := by
      rw [Int32.toInt_add]
      have e : (Int32.ofInt 1).toInt = 1 := rfl
      rw [e]
      exact bm32 (by unfold lo32; omega) (by unfold hi32; omega)
    exact ih _ w' _ (lkp_ne1 (by decide) rfl h0) (lkp_ne1 (by decide) rfl h2) lkp_hd1 (by omega) (by omega) (by omega) f2 (fun q k hq => (f3 q k hq).trans (hI q k hq))
theorem XF.apE {dd : Nat} {Q : Option Value → mW → Prop} {st : List Value} {fs : List mFr} {w : mW} {l : mL} (K : XF none dd 0 0 Q (121, 69, sto1 l 2 .null, st) fs w) : XF none dd 0 0 Q (121, 64, l, .null :: st) fs w := by
  refine XF.tb (e := 65) (l' := sto1 l 2 .null) (st' := st) (fun M' d mc ms Q hM' K' => ?_) (XF.tb (e := 69) (l' := sto1 l 2 .null) (st' := st) (fun M' d mc ms Q hM' K' => ?_) K)
  · obtain rfl : M' = mr_121 := Option.some.inj (hM'.symm.trans rfl)
    exact XW.asN (k := 2) (by decide +kernel) (by decide) K'
  · obtain rfl : M' = mr_121 := Option.some.inj (hM'.symm.trans rfl)
    exact XW.alN (k := 2) (by decide +kernel) lkp_hd1 (XW.inN (off := 4) (by decide +kernel) K')
/-- from 44 to the end at 69 or, behind the loop, at 101 -/
theorem XF.ap {T : aT} {E : mW → Prop} {dd qR qS : Nat} {Q : Option Value → mW → Prop} {st : List Value} {fs : List mFr} {d1 : Nat} {md : aM} {r1 r2 : Int × Int} {sh : List mE} {R : Nat → Nat → Option Nat}
    (hK : Kc T E 123 (d1, [.inr (some qR), .inl r1, .inl r2], none, md, [], [])) (hr1 : r1.1 ≤ 0 ∧ 255 ≤ r1.2) (hr2 : r2.1 ≤ lo32 ∧ hi32 ≤ r2.2) (hd : d1 + 1 + fs.length ≤ dd) (hcat : (st.map fun v => v.category).sum ≤ 8)
    (hEs : ∀ w, E w → w.1 = sh ∧ w.2.2.2 = R) (hrow : rowsE qS sh R) (hq : sh[qR]? = some (.inr 6)) (hqS : sh[qS]? = some (.inl (.array .int, 20))) (hRS : R qR 6 = some qS)
    {l : mL} {w : mW} (h0 : lkp l 0 = some (.ref qR)) (hw : wOK T E w) (hb : (w.2.1 qR 14).toInt ≤ 19)
    (K1 : ∀ l : mL, lkp l 0 = some (.ref qR) → XF none dd 0 0 Q (121, 69, l, st) fs w)
    (K2 : ∀ (l : mL) (w' : mW), lkp l 0 = some (.ref qR) → wOK T E w' → sameI md w.2.1 w'.2.1 → XF none dd 0 0 Q (121, 101, l, st) fs w') : XF none dd 0 0 Q (121, 44, l, st) fs w := by
  obtain ⟨hsh, hR⟩ := hEs w hw.2.2.2
  have hwq : w.1[qR]? = some (.inr 6) := by rw [hsh]; exact hq
  have hwS : w.1[qS]? = some (.inl (.array .int, 20)) := by rw [hsh]; exact hqS
  have hwR : w.2.2.2 qR 6 = some qS := by rw [hR]; exact hRS
  refine XF.fam (pc := 44) (pc' := 45) (ls' := l) (st' := .ref qR :: st) (w' := w) (M := mr_121) rfl (show mcode 121 44 = some (44, .aload_n 0, 1, 0, 0, 0, _) from rfl) (Or.inl ⟨.ref qR, al0 h0, rfl⟩) ?_
  refine XF.fam (pc := 45) (pc' := 48) (ls' := l) (st' := .int (w.2.1 qR 14) :: st) (w' := w) (M := mr_121) rfl (show mcode 121 45 = some (45, .getfield 136, 3, 6, 14, 0, _) from rfl) (Or.inr (Or.inr (Or.inr (Or.inr (Or.inr (Or.inr (Or.inr (Or.inl ⟨_, _, rfl, fl_ldI hwq (by decide) (by decide), rfl⟩)))))))) ?_
  by_cases c : bcmp .lt (w.2.1 qR 14) 0 = true
  · refine XF.fam (pc := 48) (pc' := 63) (ls' := l) (st' := st) (w' := w) (M := mr_121) rfl (show mcode 121 48 = some (48, .ifCond .lt 15, 3, 63, 0, 0, _) from rfl) (Or.inr (Or.inl ⟨63, st, by simp [brn, c], rfl⟩)) ?_
    refine XF.tb (e := 64) (l' := l) (st' := .null :: st) (fun M' d mc ms Q hM' K' => ?_) (XF.apE (K1 _ (lkp_ne1 (by decide) rfl h0)))
    obtain rfl : M' = mr_121 := Option.some.inj (hM'.symm.trans rfl)
    exact XW.nul (by decide +kernel) K'
  refine XF.fam (pc := 48) (pc' := 51) (ls' := l) (st' := st) (w' := w) (M := mr_121) rfl (show mcode 121 48 = some (48, .ifCond .lt 15, 3, 63, 0, 0, _) from rfl) (Or.inr (Or.inl ⟨51, st, by simp [brn, c], rfl⟩)) ?_
  have hb0 : 0 ≤ (w.2.1 qR 14).toInt := by
    simp only [bcmp, decide_eq_true_eq, Int32.lt_iff_toInt_lt] at c
    have hz : (0 : Int32).toInt = 0 := rfl
    omega
  have hin : inR (w.2.1 qR 14) 20 = true := inR_of hb0 (by omega)
  refine XF.fam (pc := 51) (pc' := 52) (ls' := l) (st' := .ref qR :: st) (w' := w) (M := mr_121) rfl (show mcode 121 51 = some (51, .aload_n 0, 1, 0, 0, 0, _) from rfl) (Or.inl ⟨.ref qR, al0 h0, rfl⟩) ?_
  refine XF.fam (pc := 52) (pc' := 55) (ls' := l) (st' := .ref qS :: st) (w' := w) (M := mr_121) rfl (show mcode 121 52 = some (52, .getfield 19, 3, 6, 6, 0, _) from rfl) (Or.inr (Or.inr (Or.inr (Or.inr (Or.inr (Or.inr (Or.inr (Or.inl ⟨_, _, rfl, fl_ld hwq hwR (by decide) (by decide), rfl⟩)))))))) ?_
  refine XF.fam (pc := 55) (pc' := 56) (ls' := l) (st' := .ref qR :: .ref qS :: st) (w' := w) (M := mr_121) rfl (show mcode 121 55 = some (55, .aload_n 0, 1, 0, 0, 0, _) from rfl) (Or.inl ⟨.ref qR, al0 h0, rfl⟩) ?_
  refine XF.fam (pc := 56) (pc' := 59) (ls' := l) (st' := .int (w.2.1 qR 14) :: .ref qS :: st) (w' := w) (M := mr_121) rfl (show mcode 121 56 = some (56, .getfield 136, 3, 6, 14, 0, _) from rfl) (Or.inr (Or.inr (Or.inr (Or.inr (Or.inr (Or.inr (Or.inr (Or.inl ⟨_, _, rfl, fl_ldI hwq (by decide) (by decide), rfl⟩)))))))) ?_
  refine XF.tb (e := 60) (l' := l) (st' := rfO (w.2.2.2 qS (w.2.1 qR 14).toNatClampNeg) :: st) (fun M' d mc ms Q hM' K' => ?_) ?_
  · obtain rfl : M' = mr_121 := Option.some.inj (hM'.symm.trans rfl)
    exact XW.aal (by decide +kernel) hwS hin K'
  refine XF.fam (pc := 60) (pc' := 64) (ls' := l) (st' := rfO (w.2.2.2 qS (w.2.1 qR 14).toNatClampNeg) :: st) (w' := w) (M := mr_121) rfl (show mcode 121 60 = some (60, .goto 4, 3, 64, 0, 0, _) from rfl) (Or.inr (Or.inl ⟨64, _, rfl, rfl⟩)) ?_
  have hlt : (w.2.1 qR 14).toNatClampNeg < 20 := inR_lt hin
  rcases hrow _ hlt with hn | ⟨z, n, hz, hzn, hn⟩
  · rw [hR, hn]
    exact XF.apE (K1 _ (lkp_ne1 (by decide) rfl h0))
  rw [hR, hz]
  have g0 : lkp (sto1 l 2 (.ref z)) 0 = some (.ref qR) := lkp_ne1 (by decide) rfl h0
  refine XF.fam (pc := 64) (pc' := 65) (ls' := sto1 l 2 (.ref z)) (st' := st) (w' := w) (M := mr_121) rfl (show mcode 121 64 = some (64, .astore_n 2, 1, 0, 0, 0, _) from rfl) (Or.inr (Or.inr (Or.inr (Or.inr (Or.inr (Or.inr (Or.inl ⟨.ref z, st, _, rfl, rfl, rfl⟩))))))) ?_
  refine XF.fam (pc := 65) (pc' := 66) (ls' := sto1 l 2 (.ref z)) (st' := .ref z :: st) (w' := w) (M := mr_121) rfl (show mcode 121 65 = some (65, .aload_n 2, 1, 0, 0, 0, _) from rfl) (Or.inl ⟨.ref z, al2 lkp_hd1, rfl⟩) ?_
  refine XF.tb (e := 70) (l' := sto1 l 2 (.ref z)) (st' := st) (fun M' d mc ms Q hM' K' => ?_) ?_
  · obtain rfl : M' = mr_121 := Option.some.inj (hM'.symm.trans rfl)
    exact XW.inR2 (off := 4) (by decide +kernel) (by decide) K'
  refine XF.fam (pc := 70) (pc' := 71) (ls' := sto1 l 2 (.ref z)) (st' := .int 0 :: st) (w' := w) (M := mr_121) rfl (show mcode 121 70 = some (70, .iconst 0, 1, 0, 0, 0, _) from rfl) (Or.inl ⟨.int 0, rfl, rfl⟩) ?_
  refine XF.fam (pc := 71) (pc' := 72) (ls' := sto1 (sto1 l 2 (.ref z)) 3 (.int 0)) (st' := st) (w' := w) (M := mr_121) rfl (show mcode 121 71 = some (71, .istore_n 3, 1, 0, 0, 0, _) from rfl) (Or.inr (Or.inr (Or.inr (Or.inr (Or.inr (Or.inr (Or.inl ⟨.int 0, st, _, rfl, rfl, rfl⟩))))))) ?_
  exact XF.apL (res := ()) (I0 := w.2.1) hK hr1 hr2 hd hcat hEs hq hzn hn K2 n _ w 0 (lkp_ne1 (by decide) rfl g0) (lkp_ne1 (by decide) rfl lkp_hd1) lkp_hd1 (by decide) (by show (0 : Int) ≤ _; omega) (by show n - 0 ≤ n; omega) hw (fun _ _ _ => rfl)
def spP (k : aK) (qR qS : Nat) (T : aT) (md : aM) (dd : Nat) (A : aS) : Option (List aS) := match A with
  | ((j, pc, ls, st), fs, B, P, F, G) => bif Nat.beq j 121 && Nat.beq pc 44 then (match alk ls 0, k, T.1 qR, T.2.1 qR 6, T.1 qS with
    | some (.inr (some q0)), (d1, [.inr (some q1), .inl r1, .inl r2], none, mdk, [], []), some (.inr 6), some q2, some (.inl (.array .int, 20)) =>
      bif (Nat.beq q0 qR && Nat.beq q1 qR && Nat.beq q2 qS) && (ile r1.1 0 && ile 255 r1.2 && ile r2.1 lo32 && ile hi32 r2.2) && (Nat.ble (d1 + 1 + fs.length) dd && Nat.ble (catS st) 8 && ile (rg T qR 14).2 19 && msub mdk md) then some [((121, 69, [(0, .inr (some qR))], st), fs, B, P, F, G), ((121, 101, [(0, .inr (some qR))], st), fs, B, pmd mdk P, F, G)] else none
    | _, _, _, _, _ => none) else none
theorem spP_ok {T : aT} {E : mW → Prop} {md : aM} {Z : aZ} {av : List Value} {I0 : Nat → Nat → Int32} {dd : Nat} {k : aK} {qR qS : Nat} {sh : List mE} {R : Nat → Nat → Option Nat} (hK : Kc T E 123 k) (hEs : ∀ w, E w → w.1 = sh ∧ w.2.2.2 = R) (hrow : ∀ w, E w → rowsE qS sh R) {A : aS} {As : List aS} (h : spP k qR qS T md dd A = some As) : Snd T E md Z av I0 dd A As := by
  obtain ⟨⟨j, pc, ls, st⟩, fs, B, P, F, G⟩ := A
  intro rho C hS K
  obtain ⟨⟨j', pc', l, s⟩, gs, w⟩ := C
  obtain ⟨⟨e1, e2, hl, hs⟩, hfs, hB, hP, hF, hG, hw, hI⟩ := hS
  dsimp only at e1 e2 hl hs hfs hB hP hF hG hw hI K ⊢
  subst e1 e2
  unfold spP at h
  dsimp only at h
  obtain ⟨hb, h9⟩ := bif_o h
  clear h
  rw [Bool.and_eq_true] at hb
  have ej := Nat.eq_of_beq_eq_true hb.1
  have ep := Nat.eq_of_beq_eq_true hb.2
  subst ej ep
  split at h9
  · next q0 d1 q1 r1 r2 mdk q2 a0 a1 a2 a3 =>
    obtain ⟨g, h8⟩ := bif_o h9
    cases h8
    simp only [Bool.and_eq_true, ile_iff] at g
    obtain ⟨⟨⟨⟨g1, g2⟩, g3⟩, ⟨⟨⟨g4, g5⟩, g6⟩, g7⟩⟩, ⟨⟨⟨g8, g9⟩, g10⟩, g11⟩⟩ := g
    have b1 := Nat.eq_of_beq_eq_true g1
    have b2 := Nat.eq_of_beq_eq_true g2
    have b3 := Nat.eq_of_beq_eq_true g3
    subst b1 b2 b3
    obtain ⟨v0, k0, e0⟩ := hl 0 _ (alk_mem a0)
    obtain rfl : v0 = .ref q1 := e0
    obtain ⟨hsh, hR⟩ := hEs w hw.2.2.2
    have hl0 : ∀ l' : mL, lkp l' 0 = some (.ref q1) → lOK B.1 rho [(0, .inr (some q1))] l' := by
      intro l' hk i a hm
      rcases List.mem_singleton.mp hm with e
      cases e
      exact ⟨_, hk, rfl⟩
    refine XF.ap (sh := sh) (R := R) hK ⟨g4, g5⟩ ⟨g6, g7⟩ (by rw [← hfs.len]; exact Nat.le_of_ble_eq_true g8) (by rw [hs.cats]; exact Nat.le_of_ble_eq_true g9) hEs (hrow w hw.2.2.2) (by rw [← hsh]; exact hw.1 _ _ a1) (by rw [← hsh]; exact hw.1 _ _ a3) (by rw [← hR]; exact hw.2.1 _ _ _ a2) k0 hw (Int.le_trans (hw.2.2.1 q1 14).2 g10) (fun l' hk => ?_) (fun l' w' hk hw' hI' => ?_)
    · exact K _ List.mem_cons_self rho ((121, 69, l', s), gs, w) (agr.refl _ _) ⟨⟨rfl, rfl, hl0 l' hk, hs⟩, hfs, hB, hP, hF, hG, hw, hI⟩
    · exact K _ (List.mem_cons_of_mem _ (List.mem_singleton_self _)) rho ((121, 101, l', s), gs, w') (agr.refl _ _) ⟨⟨rfl, rfl, hl0 l' hk, hs⟩, hfs, hB, pmd_ok hP hI', hF, hG, hw', sameI_trans g11 hI hI'⟩
  · cases h9
