/-! the places of arraycopy -/
set_option maxRecDepth 100000 in
theorem ac_at0 : acAt 118 37 := ⟨mr_118, 95, rfl, by decide +kernel, tbk_of (List.mem_of_getElem? (i := 1235) (by decide +kernel)) rfl⟩
set_option maxRecDepth 100000 in
theorem ac_at1 : acAt 169 85 := ⟨mr_169, 98, rfl, by decide +kernel, tbk_of (List.mem_of_getElem? (i := 1472) (by decide +kernel)) rfl⟩
set_option maxRecDepth 100000 in
theorem ac_at2 : acAt 172 48 := ⟨mr_172, 98, rfl, by decide +kernel, tbk_of (List.mem_of_getElem? (i := 1472) (by decide +kernel)) rfl⟩
set_option maxRecDepth 100000 in
theorem ac_at3 : acAt 186 58 := ⟨mr_186, 103, rfl, by decide +kernel, tbk_of (List.mem_of_getElem? (i := 1538) (by decide +kernel)) rfl⟩
def acTab : List (Nat × Nat) := [(118, 37), (169, 85), (172, 48), (186, 58)]
theorem acTab_ok : ∀ e ∈ acTab, acAt e.1 e.2 := List.forall_mem_cons.mpr ⟨ac_at0, List.forall_mem_cons.mpr ⟨ac_at1, List.forall_mem_cons.mpr ⟨ac_at2, List.forall_mem_cons.mpr ⟨ac_at3, (fun e he => by cases he)⟩⟩⟩⟩
