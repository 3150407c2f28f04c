/-! the law: its two objects are made; then its loop's head (wip/genctor.py) -/
set_option maxRecDepth 100000 in
set_option maxHeartbeats 4000000 in
theorem law_made (X : mX) (Q : Option Value → mW → Prop) (K : XF X 91 512 122880 Q (371, 18, [(3, .int 0), (2, .ref 94), (1, .ref 0), (0, .retAddr 0)], []) [] w_26) : XF X 91 682 171723 Q (371, 0, [(0, .retAddr 0)], []) [] w_0 := by
  refine crun_ok (by decide) 2 (C := ((371, 0, [(0, .retAddr 0)], []), [], w_0)) (C' := ((371, 4, [(0, .retAddr 0)], [.ref 0, .ref 0]), [], w_1)) (k := 1) (n := 11) rfl (by decide) (by decide) ?_
  refine XF.callT (M := mr_371) (Ma := mr_0) (av := [.ref 0]) (rest := [.ref 0]) rfl rfl rfl (by decide) (by decide) rfl rfl rfl (by decide) (fun hf => i_0 hf) (by decide) (by decide) (by decide) ?_
  rintro r w' ⟨rfl, rfl, hf⟩
  refine ⟨hf, ?_⟩
  refine crun_ok (by decide) 3 (C := ((371, 7, [(0, .retAddr 0)], [.ref 0]), [], w_24)) (C' := ((371, 12, [(1, .ref 0), (0, .retAddr 0)], [.ref 94, .ref 94]), [], w_25)) (k := 1) (n := 111) rfl (by decide) (by decide) ?_
  refine XF.callT (M := mr_371) (Ma := mr_234) (av := [.ref 94]) (rest := [.ref 94]) rfl rfl rfl (by decide) (by decide) rfl rfl rfl (by decide) (fun hf => i_234 hf) (by decide) (by decide) (by decide) ?_
  rintro r w' ⟨rfl, rfl, hf⟩
  refine ⟨hf, ?_⟩
  refine crun_ok (by decide) 3 (C := ((371, 15, [(1, .ref 0), (0, .retAddr 0)], [.ref 94]), [], w_26)) (C' := ((371, 18, [(3, .int 0), (2, .ref 94), (1, .ref 0), (0, .retAddr 0)], []), [], w_26)) (k := 0) (n := 0) rfl (by decide) (by decide) ?_
  exact K
