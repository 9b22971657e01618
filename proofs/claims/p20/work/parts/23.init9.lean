set_option maxHeartbeats 4000000 in
set_option maxRecDepth 100000 in
theorem c_X0_init (l : Launch) (dC : Nat → ClassId) (dI : Nat → Nat → Nat) (h0 : Nat) (v1 : Int32) (sz : Nat)  : Met l yX0_init (.code yX0_init cX0_init 2 none :: gw) ({ frames := 1, cells := 1, slots := 16, locals := 20 }) (va_Pc [.ref h0, .int v1] (fun U => U.heap.size = sz ∧ va_P (dC, dI) vwCl [(h0, .inr (0, [.int 0, .null, .int 0]))] U.heap ∧ va_K (dC, dI) vwCl [] U ∧ va_D (fun _ => True) [(h0, .inr (0, [.int 0, .null, .int 0]))] ∧ nx U)) (va_Qv (fun (u : wS) => True) (fun u t => va_P (dC, dI) vwCl [(h0, .inr (0, [.int v1, .ref (u.1 0), .int 0])), ((u.1 0), .inl ((u.2.1 0), 16, .inl (fun _ => 0)))] t.heap ∧ va_D (va_A [(h0, .inr (0, [.int 0, .null, .int 0]))] sz) [(h0, .inr (0, [.int v1, .ref (u.1 0), .int 0])), ((u.1 0), .inl ((u.2.1 0), 16, .inl (fun _ => 0)))] ∧ va_K (dC, dI) vwCl [((u.2.1 0), .int)] t) (va_A [(h0, .inr (0, [.int 0, .null, .int 0]))] sz)) 1 16 (va_A [(h0, .inr (0, [.int 0, .null, .int 0]))] sz) := by
  refine Met.ofW (cc := cX0_init) (maxL := 2) (ret := none) (by decide) rfl ?_
  intro p e s m args below meth c s₁ B hml hv
  obtain ⟨rfl, hsz, hP, hK, hD0, hN⟩ := hv
  have hx := B.exec
  have hb := B.bytes
  have hr := B.returns
  have hts := atoms_spec (ws := .code yX0_init cX0_init 2 none :: gw) B.pre
  have hg : ∀ w ∈ gw, w.before _ s = true := fun w h => hts w (List.mem_cons_of_mem _ h)
  have hown : s.vm.findClass RX0 = some m.cls := findClass_of_methodNamed B.named
  have hlocks := B.notSynchronized
  have hin : meth.name = "<init>" := (name_of_methodNamed B.named B.method).1
  subst hsz
  have hD := hD0.self (sz := s.heap.size)
  generalize hAe : va_A [(h0, .inr (0, [.int 0, .null, .int 0]))] s.heap.size = A at hD ⊢
  have hA : ∀ q : Nat, s.heap.size ≤ q → A q := fun q h => by rw [← hAe]; exact Or.inr h
  have hS : va_S A s.heap s.heap [] := va_S.rf
  have hP : va_P (dC, dI) vwCl [(h0, .inr (0, [.int 0, .null, .int 0]))] s.heap := hP
  have hl := lv_entry ([.ref h0, .int v1]) (n := 2) (Nat.le_of_ble_eq_true rfl)
  rw [lg_entry_eq]
  generalize (lg_sl ([.ref h0, .int v1]) ++ List.replicate (2 - (lg_sl ([.ref h0, .int v1])).length) Slot.unset).toArray = ls at hl ⊢
  have hl : lv_has ls 2 [(0, .ref h0), (1, .int v1)] := hl
  refine lv_aload_n hx hb dX0_init_0 rfl (lv_at hl 0 rfl) ?_
  refine W.objInit hx hb hown (hg _ gm_methodLink_RX0_3_objectInit) (hg _ gm_instanceMethod_objectInit) (hg _ gm_code_objectInit_oi_1_none) rfl (by rw [hml]; exact hl.1) rfl dX0_init_1 (Nat.le_of_ble_eq_true rfl) (Nat.le_of_ble_eq_true rfl) ?_
  refine W.eq (g2 := F0 m 4 ls []) rfl ?_
  refine lv_aload_n hx hb dX0_init_4 rfl (lv_at hl 0 rfl) ?_
  refine lv_bipush (v := 16) hx hb dX0_init_5 (by decide) ?_
  refine va_newa (atype := .int) (ty := .int) (N' := 16) (a0 := (16, .inl (fun _ => 0))) hx hb (hg _ gm_arrayClass_int) rfl hK hP hD hS hA (fun _ => rfl) (by decide) (by decide) (Nat.le_of_ble_eq_true rfl) (Nat.le_of_ble_eq_true rfl) (Nat.le_of_ble_eq_true rfl) dX0_init_7 (fun q_1 k_2 H hK hP hD hS => ?_)
  have hK : va_K (dC, dI) vwCl [(k_2, .int)] s := hK
  have hP : va_P (dC, dI) vwCl [(h0, .inr (0, [.int 0, .null, .int 0])), (q_1, .inl (k_2, 16, .inl (fun _ => 0)))] H := hP
  have hD : va_D A [(h0, .inr (0, [.int 0, .null, .int 0])), (q_1, .inl (k_2, 16, .inl (fun _ => 0)))] := hD
  refine W.widen (k := 1) (n := 16) (Nat.le_of_ble_eq_true rfl) (Nat.le_of_ble_eq_true rfl) ?_
  refine va_put (D := (dC, dI)) (ci := 0) (v := .ref q_1) (ty := .array .int) (C := RX0) (T := TX0) (N := 3) hx hb hg gb_0 tyX0 tyX0_ok nmX0 hown hK hP hD hS 0 rfl rfl 1 (by decide) (hg _ gm_fieldLink_RX0_9_ErrandGuild_Cells_cells_AI_) (fun _ h9 => h9) rfl (by decide +kernel) rfl rfl (Nat.le_of_ble_eq_true rfl) dX0_init_9 (fun H locs hP hD hS => ?_)
  have hP : va_P (dC, dI) vwCl [(h0, .inr (0, [.int 0, .ref q_1, .int 0])), (q_1, .inl (k_2, 16, .inl (fun _ => 0)))] H := hP
  have hD : va_D A [(h0, .inr (0, [.int 0, .ref q_1, .int 0])), (q_1, .inl (k_2, 16, .inl (fun _ => 0)))] := hD
  refine lv_aload_n hx hb dX0_init_12 rfl (lv_at hl 0 rfl) ?_
  refine lv_iload_n hx hb dX0_init_13 rfl (lv_at hl 1 rfl) ?_
  refine va_putF (D := (dC, dI)) (ci := 0) (v := .int v1) (ty := .int) (C := RX0) (T := TX0) (N := 3) hx hb hg gb_0 tyX0 tyX0_ok nmX0 hown hK hP hD hS 0 rfl rfl 0 (by decide) (hg _ gm_fieldLink_RX0_15_ErrandGuild_Cells_limit_I_) (fun _ h9 => h9) rfl hin rfl (by decide +kernel) rfl rfl (Nat.le_of_ble_eq_true rfl) dX0_init_14 (fun H locs hP hD hS => ?_)
  have hP : va_P (dC, dI) vwCl [(h0, .inr (0, [.int v1, .ref q_1, .int 0])), (q_1, .inl (k_2, 16, .inl (fun _ => 0)))] H := hP
  have hD : va_D A [(h0, .inr (0, [.int v1, .ref q_1, .int 0])), (q_1, .inl (k_2, 16, .inl (fun _ => 0)))] := hD
  have hP9 := hP.sub (ws' := [(h0, .inr (0, [.int v1, .ref q_1, .int 0])), (q_1, .inl (k_2, 16, .inl (fun _ => 0)))]) [0, 1] rfl
  have hD9 := hD.sub (ws' := [(h0, .inr (0, [.int v1, .ref q_1, .int 0])), (q_1, .inl (k_2, 16, .inl (fun _ => 0)))]) [0, 1] (by decide) rfl
  have hK9 := hK.sub (tys' := [(k_2, .int)]) [0] rfl
  exact W.vret hx hb hr (fun t ht hW => ⟨⟨((fun k => ([q_1] : List Nat).getD k 0), (fun k => ([k_2] : List ClassId).getD k (dC 0)), (fun _ => (fun _ => 0)), (fun _ => (fun _ => none))), rfl, trivial, by rw [ht]; exact hP9, hD9, va_K.moved hW.alike hK9⟩, hS.F ht⟩) hS.2.2 dX0_init_17

set_option maxHeartbeats 4000000 in
set_option maxRecDepth 100000 in
theorem c_X1_init (l : Launch) (dC : Nat → ClassId) (dI : Nat → Nat → Nat) (h0 : Nat) (sz : Nat)  : Met l yX1_init (.code yX1_init cX1_init 1 none :: gw) ({ frames := 1, cells := 3, slots := 72, locals := 20 }) (va_Pc [.ref h0] (fun U => U.heap.size = sz ∧ va_P (dC, dI) vwCl [(h0, .inr (1, [.null, .null, .null, .int 0]))] U.heap ∧ va_K (dC, dI) vwCl [] U ∧ va_D (fun _ => True) [(h0, .inr (1, [.null, .null, .null, .int 0]))] ∧ nx U)) (va_Qv (fun (u : wS) => True) (fun u t => va_P (dC, dI) vwCl [(h0, .inr (1, [.ref (u.1 0), .ref (u.1 1), .ref (u.1 2), .int 0])), ((u.1 0), .inl ((u.2.1 0), 24, .inl (fun _ => 0))), ((u.1 1), .inl ((u.2.1 1), 24, .inl (fun _ => 0))), ((u.1 2), .inl ((u.2.1 2), 24, .inl (fun _ => 0)))] t.heap ∧ va_D (va_A [(h0, .inr (1, [.null, .null, .null, .int 0]))] sz) [(h0, .inr (1, [.ref (u.1 0), .ref (u.1 1), .ref (u.1 2), .int 0])), ((u.1 0), .inl ((u.2.1 0), 24, .inl (fun _ => 0))), ((u.1 1), .inl ((u.2.1 1), 24, .inl (fun _ => 0))), ((u.1 2), .inl ((u.2.1 2), 24, .inl (fun _ => 0)))] ∧ va_K (dC, dI) vwCl [((u.2.1 0), .int), ((u.2.1 1), .int), ((u.2.1 2), .int)] t) (va_A [(h0, .inr (1, [.null, .null, .null, .int 0]))] sz)) 3 72 (va_A [(h0, .inr (1, [.null, .null, .null, .int 0]))] sz) := by
  refine Met.ofW (cc := cX1_init) (maxL := 1) (ret := none) (by decide) rfl ?_
  intro p e s m args below meth c s₁ B hml hv
  obtain ⟨rfl, hsz, hP, hK, hD0, hN⟩ := hv
  have hx := B.exec
  have hb := B.bytes
  have hr := B.returns
  have hts := atoms_spec (ws := .code yX1_init cX1_init 1 none :: gw) B.pre
  have hg : ∀ w ∈ gw, w.before _ s = true := fun w h => hts w (List.mem_cons_of_mem _ h)
  have hown : s.vm.findClass RX1 = some m.cls := findClass_of_methodNamed B.named
  have hlocks := B.notSynchronized
  have hin : meth.name = "<init>" := (name_of_methodNamed B.named B.method).1
  subst hsz
  have hD := hD0.self (sz := s.heap.size)
  generalize hAe : va_A [(h0, .inr (1, [.null, .null, .null, .int 0]))] s.heap.size = A at hD ⊢
  have hA : ∀ q : Nat, s.heap.size ≤ q → A q := fun q h => by rw [← hAe]; exact Or.inr h
  have hS : va_S A s.heap s.heap [] := va_S.rf
  have hP : va_P (dC, dI) vwCl [(h0, .inr (1, [.null, .null, .null, .int 0]))] s.heap := hP
  have hl := lv_entry ([.ref h0]) (n := 1) (Nat.le_of_ble_eq_true rfl)
  rw [lg_entry_eq]
  generalize (lg_sl ([.ref h0]) ++ List.replicate (1 - (lg_sl ([.ref h0])).length) Slot.unset).toArray = ls at hl ⊢
  have hl : lv_has ls 1 [(0, .ref h0)] := hl
  refine lv_aload_n hx hb dX1_init_0 rfl (lv_at hl 0 rfl) ?_
  refine W.objInit hx hb hown (hg _ gm_methodLink_RX1_3_objectInit) (hg _ gm_instanceMethod_objectInit) (hg _ gm_code_objectInit_oi_1_none) rfl (by rw [hml]; exact hl.1) rfl dX1_init_1 (Nat.le_of_ble_eq_true rfl) (Nat.le_of_ble_eq_true rfl) ?_
  refine W.eq (g2 := F0 m 4 ls []) rfl ?_
  refine lv_aload_n hx hb dX1_init_4 rfl (lv_at hl 0 rfl) ?_
  refine lv_bipush (v := 24) hx hb dX1_init_5 (by decide) ?_
  refine va_newa (atype := .int) (ty := .int) (N' := 24) (a0 := (24, .inl (fun _ => 0))) hx hb (hg _ gm_arrayClass_int) rfl hK hP hD hS hA (fun _ => rfl) (by decide) (by decide) (Nat.le_of_ble_eq_true rfl) (Nat.le_of_ble_eq_true rfl) (Nat.le_of_ble_eq_true rfl) dX1_init_7 (fun q_1 k_2 H hK hP hD hS => ?_)
  have hK : va_K (dC, dI) vwCl [(k_2, .int)] s := hK
  have hP : va_P (dC, dI) vwCl [(h0, .inr (1, [.null, .null, .null, .int 0])), (q_1, .inl (k_2, 24, .inl (fun _ => 0)))] H := hP
  have hD : va_D A [(h0, .inr (1, [.null, .null, .null, .int 0])), (q_1, .inl (k_2, 24, .inl (fun _ => 0)))] := hD
  refine W.widen (k := 1) (n := 24) (Nat.le_of_ble_eq_true rfl) (Nat.le_of_ble_eq_true rfl) ?_
  refine va_putF (D := (dC, dI)) (ci := 1) (v := .ref q_1) (ty := .array .int) (C := RX1) (T := TX1) (N := 4) hx hb hg gb_1 tyX1 tyX1_ok nmX1 hown hK hP hD hS 0 rfl rfl 0 (by decide) (hg _ gm_fieldLink_RX1_9_ErrandGuild_Errand_ops_AI_) (fun _ h9 => h9) rfl hin rfl (by decide +kernel) rfl rfl (Nat.le_of_ble_eq_true rfl) dX1_init_9 (fun H locs hP hD hS => ?_)
  have hP : va_P (dC, dI) vwCl [(h0, .inr (1, [.ref q_1, .null, .null, .int 0])), (q_1, .inl (k_2, 24, .inl (fun _ => 0)))] H := hP
  have hD : va_D A [(h0, .inr (1, [.ref q_1, .null, .null, .int 0])), (q_1, .inl (k_2, 24, .inl (fun _ => 0)))] := hD
  refine lv_aload_n hx hb dX1_init_12 rfl (lv_at hl 0 rfl) ?_
  refine lv_bipush (v := 24) hx hb dX1_init_13 (by decide) ?_
  refine va_newa (atype := .int) (ty := .int) (N' := 24) (a0 := (24, .inl (fun _ => 0))) hx hb (hg _ gm_arrayClass_int) rfl hK hP hD hS hA (fun _ => rfl) (by decide) (by decide) (Nat.le_of_ble_eq_true rfl) (Nat.le_of_ble_eq_true rfl) (Nat.le_of_ble_eq_true rfl) dX1_init_15 (fun q_3 k_4 H hK hP hD hS => ?_)
  have hK : va_K (dC, dI) vwCl [(k_2, .int), (k_4, .int)] s := hK
  have hP : va_P (dC, dI) vwCl [(h0, .inr (1, [.ref q_1, .null, .null, .int 0])), (q_1, .inl (k_2, 24, .inl (fun _ => 0))), (q_3, .inl (k_4, 24, .inl (fun _ => 0)))] H := hP
  have hD : va_D A [(h0, .inr (1, [.ref q_1, .null, .null, .int 0])), (q_1, .inl (k_2, 24, .inl (fun _ => 0))), (q_3, .inl (k_4, 24, .inl (fun _ => 0)))] := hD
  refine W.widen (k := 2) (n := 48) (Nat.le_of_ble_eq_true rfl) (Nat.le_of_ble_eq_true rfl) ?_
  refine va_putF (D := (dC, dI)) (ci := 1) (v := .ref q_3) (ty := .array .int) (C := RX1) (T := TX1) (N := 4) hx hb hg gb_1 tyX1 tyX1_ok nmX1 hown hK hP hD hS 0 rfl rfl 1 (by decide) (hg _ gm_fieldLink_RX1_15_ErrandGuild_Errand_as_AI_) (fun _ h9 => h9) rfl hin rfl (by decide +kernel) rfl rfl (Nat.le_of_ble_eq_true rfl) dX1_init_17 (fun H locs hP hD hS => ?_)
  have hP : va_P (dC, dI) vwCl [(h0, .inr (1, [.ref q_1, .ref q_3, .null, .int 0])), (q_1, .inl (k_2, 24, .inl (fun _ => 0))), (q_3, .inl (k_4, 24, .inl (fun _ => 0)))] H := hP
  have hD : va_D A [(h0, .inr (1, [.ref q_1, .ref q_3, .null, .int 0])), (q_1, .inl (k_2, 24, .inl (fun _ => 0))), (q_3, .inl (k_4, 24, .inl (fun _ => 0)))] := hD
  refine lv_aload_n hx hb dX1_init_20 rfl (lv_at hl 0 rfl) ?_
  refine lv_bipush (v := 24) hx hb dX1_init_21 (by decide) ?_
  refine va_newa (atype := .int) (ty := .int) (N' := 24) (a0 := (24, .inl (fun _ => 0))) hx hb (hg _ gm_arrayClass_int) rfl hK hP hD hS hA (fun _ => rfl) (by decide) (by decide) (Nat.le_of_ble_eq_true rfl) (Nat.le_of_ble_eq_true rfl) (Nat.le_of_ble_eq_true rfl) dX1_init_23 (fun q_5 k_6 H hK hP hD hS => ?_)
  have hK : va_K (dC, dI) vwCl [(k_2, .int), (k_4, .int), (k_6, .int)] s := hK
  have hP : va_P (dC, dI) vwCl [(h0, .inr (1, [.ref q_1, .ref q_3, .null, .int 0])), (q_1, .inl (k_2, 24, .inl (fun _ => 0))), (q_3, .inl (k_4, 24, .inl (fun _ => 0))), (q_5, .inl (k_6, 24, .inl (fun _ => 0)))] H := hP
  have hD : va_D A [(h0, .inr (1, [.ref q_1, .ref q_3, .null, .int 0])), (q_1, .inl (k_2, 24, .inl (fun _ => 0))), (q_3, .inl (k_4, 24, .inl (fun _ => 0))), (q_5, .inl (k_6, 24, .inl (fun _ => 0)))] := hD
  refine W.widen (k := 3) (n := 72) (Nat.le_of_ble_eq_true rfl) (Nat.le_of_ble_eq_true rfl) ?_
  refine va_putF (D := (dC, dI)) (ci := 1) (v := .ref q_5) (ty := .array .int) (C := RX1) (T := TX1) (N := 4) hx hb hg gb_1 tyX1 tyX1_ok nmX1 hown hK hP hD hS 0 rfl rfl 2 (by decide) (hg _ gm_fieldLink_RX1_18_ErrandGuild_Errand_bs_AI_) (fun _ h9 => h9) rfl hin rfl (by decide +kernel) rfl rfl (Nat.le_of_ble_eq_true rfl) dX1_init_25 (fun H locs hP hD hS => ?_)
  have hP : va_P (dC, dI) vwCl [(h0, .inr (1, [.ref q_1, .ref q_3, .ref q_5, .int 0])), (q_1, .inl (k_2, 24, .inl (fun _ => 0))), (q_3, .inl (k_4, 24, .inl (fun _ => 0))), (q_5, .inl (k_6, 24, .inl (fun _ => 0)))] H := hP
  have hD : va_D A [(h0, .inr (1, [.ref q_1, .ref q_3, .ref q_5, .int 0])), (q_1, .inl (k_2, 24, .inl (fun _ => 0))), (q_3, .inl (k_4, 24, .inl (fun _ => 0))), (q_5, .inl (k_6, 24, .inl (fun _ => 0)))] := hD
  have hP9 := hP.sub (ws' := [(h0, .inr (1, [.ref q_1, .ref q_3, .ref q_5, .int 0])), (q_1, .inl (k_2, 24, .inl (fun _ => 0))), (q_3, .inl (k_4, 24, .inl (fun _ => 0))), (q_5, .inl (k_6, 24, .inl (fun _ => 0)))]) [0, 1, 2, 3] rfl
  have hD9 := hD.sub (ws' := [(h0, .inr (1, [.ref q_1, .ref q_3, .ref q_5, .int 0])), (q_1, .inl (k_2, 24, .inl (fun _ => 0))), (q_3, .inl (k_4, 24, .inl (fun _ => 0))), (q_5, .inl (k_6, 24, .inl (fun _ => 0)))]) [0, 1, 2, 3] (by decide) rfl
  have hK9 := hK.sub (tys' := [(k_2, .int), (k_4, .int), (k_6, .int)]) [0, 1, 2] rfl
  exact W.vret hx hb hr (fun t ht hW => ⟨⟨((fun k => ([q_1, q_3, q_5] : List Nat).getD k 0), (fun k => ([k_2, k_4, k_6] : List ClassId).getD k (dC 0)), (fun _ => (fun _ => 0)), (fun _ => (fun _ => none))), rfl, trivial, by rw [ht]; exact hP9, hD9, va_K.moved hW.alike hK9⟩, hS.F ht⟩) hS.2.2 dX1_init_28

set_option maxHeartbeats 4000000 in
set_option maxRecDepth 100000 in
theorem c_X3_init (l : Launch) (dC : Nat → ClassId) (dI : Nat → Nat → Nat) (h0 : Nat) (sz : Nat)  : Met l yX3_init (.code yX3_init cX3_init 1 none :: gw) ({ frames := 1, cells := 3, slots := 51, locals := 20 }) (va_Pc [.ref h0] (fun U => U.heap.size = sz ∧ va_P (dC, dI) vwCl [(h0, .inr (3, [.null, .null, .null]))] U.heap ∧ va_K (dC, dI) vwCl [] U ∧ va_D (fun _ => True) [(h0, .inr (3, [.null, .null, .null]))] ∧ nx U)) (va_Qv (fun (u : wS) => True) (fun u t => va_P (dC, dI) vwCl [(h0, .inr (3, [.ref (u.1 0), .ref (u.1 1), .ref (u.1 2)])), ((u.1 0), .inl ((u.2.1 0), 17, .inl (fun _ => 0))), ((u.1 1), .inl ((u.2.1 1), 17, .inl (fun _ => 0))), ((u.1 2), .inl ((u.2.1 2), 17, .inl (fun _ => 0)))] t.heap ∧ va_D (va_A [(h0, .inr (3, [.null, .null, .null]))] sz) [(h0, .inr (3, [.ref (u.1 0), .ref (u.1 1), .ref (u.1 2)])), ((u.1 0), .inl ((u.2.1 0), 17, .inl (fun _ => 0))), ((u.1 1), .inl ((u.2.1 1), 17, .inl (fun _ => 0))), ((u.1 2), .inl ((u.2.1 2), 17, .inl (fun _ => 0)))] ∧ va_K (dC, dI) vwCl [((u.2.1 0), .boolean), ((u.2.1 1), .int), ((u.2.1 2), .boolean)] t) (va_A [(h0, .inr (3, [.null, .null, .null]))] sz)) 3 51 (va_A [(h0, .inr (3, [.null, .null, .null]))] sz) := by
  refine Met.ofW (cc := cX3_init) (maxL := 1) (ret := none) (by decide) rfl ?_
  intro p e s m args below meth c s₁ B hml hv
  obtain ⟨rfl, hsz, hP, hK, hD0, hN⟩ := hv
  have hx := B.exec
  have hb := B.bytes
  have hr := B.returns
  have hts := atoms_spec (ws := .code yX3_init cX3_init 1 none :: gw) B.pre
  have hg : ∀ w ∈ gw, w.before _ s = true := fun w h => hts w (List.mem_cons_of_mem _ h)
  have hown : s.vm.findClass RX3 = some m.cls := findClass_of_methodNamed B.named
  have hlocks := B.notSynchronized
  have hin : meth.name = "<init>" := (name_of_methodNamed B.named B.method).1
  subst hsz
  have hD := hD0.self (sz := s.heap.size)
  generalize hAe : va_A [(h0, .inr (3, [.null, .null, .null]))] s.heap.size = A at hD ⊢
  have hA : ∀ q : Nat, s.heap.size ≤ q → A q := fun q h => by rw [← hAe]; exact Or.inr h
  have hS : va_S A s.heap s.heap [] := va_S.rf
  have hP : va_P (dC, dI) vwCl [(h0, .inr (3, [.null, .null, .null]))] s.heap := hP
  have hl := lv_entry ([.ref h0]) (n := 1) (Nat.le_of_ble_eq_true rfl)
  rw [lg_entry_eq]
  generalize (lg_sl ([.ref h0]) ++ List.replicate (1 - (lg_sl ([.ref h0])).length) Slot.unset).toArray = ls at hl ⊢
  have hl : lv_has ls 1 [(0, .ref h0)] := hl
  refine lv_aload_n hx hb dX3_init_0 rfl (lv_at hl 0 rfl) ?_
  refine W.objInit hx hb hown (hg _ gm_methodLink_RX3_3_objectInit) (hg _ gm_instanceMethod_objectInit) (hg _ gm_code_objectInit_oi_1_none) rfl (by rw [hml]; exact hl.1) rfl dX3_init_1 (Nat.le_of_ble_eq_true rfl) (Nat.le_of_ble_eq_true rfl) ?_
  refine W.eq (g2 := F0 m 4 ls []) rfl ?_
  refine lv_aload_n hx hb dX3_init_4 rfl (lv_at hl 0 rfl) ?_
  refine lv_bipush (v := 17) hx hb dX3_init_5 (by decide) ?_
  refine va_newa (atype := .boolean) (ty := .boolean) (N' := 17) (a0 := (17, .inl (fun _ => 0))) hx hb (hg _ gm_arrayClass_boolean) rfl hK hP hD hS hA (fun _ => rfl) (by decide) (by decide) (Nat.le_of_ble_eq_true rfl) (Nat.le_of_ble_eq_true rfl) (Nat.le_of_ble_eq_true rfl) dX3_init_7 (fun q_1 k_2 H hK hP hD hS => ?_)
  have hK : va_K (dC, dI) vwCl [(k_2, .boolean)] s := hK
  have hP : va_P (dC, dI) vwCl [(h0, .inr (3, [.null, .null, .null])), (q_1, .inl (k_2, 17, .inl (fun _ => 0)))] H := hP
  have hD : va_D A [(h0, .inr (3, [.null, .null, .null])), (q_1, .inl (k_2, 17, .inl (fun _ => 0)))] := hD
  refine W.widen (k := 1) (n := 17) (Nat.le_of_ble_eq_true rfl) (Nat.le_of_ble_eq_true rfl) ?_
  refine va_putF (D := (dC, dI)) (ci := 3) (v := .ref q_1) (ty := .array .boolean) (C := RX3) (T := TX3) (N := 3) hx hb hg gb_3 tyX3 tyX3_ok nmX3 hown hK hP hD hS 0 rfl rfl 0 (by decide) (hg _ gm_fieldLink_RX3_11_ErrandGuild_Handlers_there_AZ_) (fun _ h9 => h9) rfl hin rfl (by decide +kernel) rfl rfl (Nat.le_of_ble_eq_true rfl) dX3_init_9 (fun H locs hP hD hS => ?_)
  have hP : va_P (dC, dI) vwCl [(h0, .inr (3, [.ref q_1, .null, .null])), (q_1, .inl (k_2, 17, .inl (fun _ => 0)))] H := hP
  have hD : va_D A [(h0, .inr (3, [.ref q_1, .null, .null])), (q_1, .inl (k_2, 17, .inl (fun _ => 0)))] := hD
  refine lv_aload_n hx hb dX3_init_12 rfl (lv_at hl 0 rfl) ?_
  refine lv_bipush (v := 17) hx hb dX3_init_13 (by decide) ?_
  refine va_newa (atype := .int) (ty := .int) (N' := 17) (a0 := (17, .inl (fun _ => 0))) hx hb (hg _ gm_arrayClass_int) rfl hK hP hD hS hA (fun _ => rfl) (by decide) (by decide) (Nat.le_of_ble_eq_true rfl) (Nat.le_of_ble_eq_true rfl) (Nat.le_of_ble_eq_true rfl) dX3_init_15 (fun q_3 k_4 H hK hP hD hS => ?_)
  have hK : va_K (dC, dI) vwCl [(k_2, .boolean), (k_4, .int)] s := hK
  have hP : va_P (dC, dI) vwCl [(h0, .inr (3, [.ref q_1, .null, .null])), (q_1, .inl (k_2, 17, .inl (fun _ => 0))), (q_3, .inl (k_4, 17, .inl (fun _ => 0)))] H := hP
  have hD : va_D A [(h0, .inr (3, [.ref q_1, .null, .null])), (q_1, .inl (k_2, 17, .inl (fun _ => 0))), (q_3, .inl (k_4, 17, .inl (fun _ => 0)))] := hD
  refine W.widen (k := 2) (n := 34) (Nat.le_of_ble_eq_true rfl) (Nat.le_of_ble_eq_true rfl) ?_
  refine va_putF (D := (dC, dI)) (ci := 3) (v := .ref q_3) (ty := .array .int) (C := RX3) (T := TX3) (N := 3) hx hb hg gb_3 tyX3 tyX3_ok nmX3 hown hK hP hD hS 0 rfl rfl 1 (by decide) (hg _ gm_fieldLink_RX3_15_ErrandGuild_Handlers_effects_AI_) (fun _ h9 => h9) rfl hin rfl (by decide +kernel) rfl rfl (Nat.le_of_ble_eq_true rfl) dX3_init_17 (fun H locs hP hD hS => ?_)
  have hP : va_P (dC, dI) vwCl [(h0, .inr (3, [.ref q_1, .ref q_3, .null])), (q_1, .inl (k_2, 17, .inl (fun _ => 0))), (q_3, .inl (k_4, 17, .inl (fun _ => 0)))] H := hP
  have hD : va_D A [(h0, .inr (3, [.ref q_1, .ref q_3, .null])), (q_1, .inl (k_2, 17, .inl (fun _ => 0))), (q_3, .inl (k_4, 17, .inl (fun _ => 0)))] := hD
  refine lv_aload_n hx hb dX3_init_20 rfl (lv_at hl 0 rfl) ?_
  refine lv_bipush (v := 17) hx hb dX3_init_21 (by decide) ?_
  refine va_newa (atype := .boolean) (ty := .boolean) (N' := 17) (a0 := (17, .inl (fun _ => 0))) hx hb (hg _ gm_arrayClass_boolean) rfl hK hP hD hS hA (fun _ => rfl) (by decide) (by decide) (Nat.le_of_ble_eq_true rfl) (Nat.le_of_ble_eq_true rfl) (Nat.le_of_ble_eq_true rfl) dX3_init_23 (fun q_5 k_6 H hK hP hD hS => ?_)
  have hK : va_K (dC, dI) vwCl [(k_2, .boolean), (k_4, .int), (k_6, .boolean)] s := hK
  have hP : va_P (dC, dI) vwCl [(h0, .inr (3, [.ref q_1, .ref q_3, .null])), (q_1, .inl (k_2, 17, .inl (fun _ => 0))), (q_3, .inl (k_4, 17, .inl (fun _ => 0))), (q_5, .inl (k_6, 17, .inl (fun _ => 0)))] H := hP
  have hD : va_D A [(h0, .inr (3, [.ref q_1, .ref q_3, .null])), (q_1, .inl (k_2, 17, .inl (fun _ => 0))), (q_3, .inl (k_4, 17, .inl (fun _ => 0))), (q_5, .inl (k_6, 17, .inl (fun _ => 0)))] := hD
  refine W.widen (k := 3) (n := 51) (Nat.le_of_ble_eq_true rfl) (Nat.le_of_ble_eq_true rfl) ?_
  refine va_putF (D := (dC, dI)) (ci := 3) (v := .ref q_5) (ty := .array .boolean) (C := RX3) (T := TX3) (N := 3) hx hb hg gb_3 tyX3 tyX3_ok nmX3 hown hK hP hD hS 0 rfl rfl 2 (by decide) (hg _ gm_fieldLink_RX3_19_ErrandGuild_Handlers_throwing_AZ_) (fun _ h9 => h9) rfl hin rfl (by decide +kernel) rfl rfl (Nat.le_of_ble_eq_true rfl) dX3_init_25 (fun H locs hP hD hS => ?_)
  have hP : va_P (dC, dI) vwCl [(h0, .inr (3, [.ref q_1, .ref q_3, .ref q_5])), (q_1, .inl (k_2, 17, .inl (fun _ => 0))), (q_3, .inl (k_4, 17, .inl (fun _ => 0))), (q_5, .inl (k_6, 17, .inl (fun _ => 0)))] H := hP
  have hD : va_D A [(h0, .inr (3, [.ref q_1, .ref q_3, .ref q_5])), (q_1, .inl (k_2, 17, .inl (fun _ => 0))), (q_3, .inl (k_4, 17, .inl (fun _ => 0))), (q_5, .inl (k_6, 17, .inl (fun _ => 0)))] := hD
  have hP9 := hP.sub (ws' := [(h0, .inr (3, [.ref q_1, .ref q_3, .ref q_5])), (q_1, .inl (k_2, 17, .inl (fun _ => 0))), (q_3, .inl (k_4, 17, .inl (fun _ => 0))), (q_5, .inl (k_6, 17, .inl (fun _ => 0)))]) [0, 1, 2, 3] rfl
  have hD9 := hD.sub (ws' := [(h0, .inr (3, [.ref q_1, .ref q_3, .ref q_5])), (q_1, .inl (k_2, 17, .inl (fun _ => 0))), (q_3, .inl (k_4, 17, .inl (fun _ => 0))), (q_5, .inl (k_6, 17, .inl (fun _ => 0)))]) [0, 1, 2, 3] (by decide) rfl
  have hK9 := hK.sub (tys' := [(k_2, .boolean), (k_4, .int), (k_6, .boolean)]) [0, 1, 2] rfl
  exact W.vret hx hb hr (fun t ht hW => ⟨⟨((fun k => ([q_1, q_3, q_5] : List Nat).getD k 0), (fun k => ([k_2, k_4, k_6] : List ClassId).getD k (dC 0)), (fun _ => (fun _ => 0)), (fun _ => (fun _ => none))), rfl, trivial, by rw [ht]; exact hP9, hD9, va_K.moved hW.alike hK9⟩, hS.F ht⟩) hS.2.2 dX3_init_28

set_option maxHeartbeats 4000000 in
set_option maxRecDepth 100000 in
theorem c_X5_init (l : Launch) (dC : Nat → ClassId) (dI : Nat → Nat → Nat) (h0 : Nat) (v1 : Int32) (sz : Nat)  : Met l yX5_init (.code yX5_init cX5_init 2 none :: gw) ({ frames := 2, cells := 2, slots := 19, locals := 41 }) (va_Pc [.ref h0, .int v1] (fun U => U.heap.size = sz ∧ va_P (dC, dI) vwCl [(h0, .inr (5, [.int 0, .null]))] U.heap ∧ va_K (dC, dI) vwCl [] U ∧ va_D (fun _ => True) [(h0, .inr (5, [.int 0, .null]))] ∧ nx U)) (va_Qv (fun (u : wS) => (u.2.2.1 0 0) = 4 * v1) (fun u t => va_P (dC, dI) vwCl [(h0, .inr (5, [.int v1, .ref (u.1 0)])), ((u.1 0), .inr (0, [.int (u.2.2.1 0 0), .ref (u.1 1), .int 0])), ((u.1 1), .inl ((u.2.1 0), 16, .inl (fun _ => 0)))] t.heap ∧ va_D (va_A [(h0, .inr (5, [.int 0, .null]))] sz) [(h0, .inr (5, [.int v1, .ref (u.1 0)])), ((u.1 0), .inr (0, [.int (u.2.2.1 0 0), .ref (u.1 1), .int 0])), ((u.1 1), .inl ((u.2.1 0), 16, .inl (fun _ => 0)))] ∧ va_K (dC, dI) vwCl [((u.2.1 0), .int)] t) (va_A [(h0, .inr (5, [.int 0, .null]))] sz)) 2 19 (va_A [(h0, .inr (5, [.int 0, .null]))] sz) := by
  refine Met.ofW (cc := cX5_init) (maxL := 2) (ret := none) (by decide) rfl ?_
  intro p e s m args below meth c s₁ B hml hv
  obtain ⟨rfl, hsz, hP, hK, hD0, hN⟩ := hv
  have hx := B.exec
  have hb := B.bytes
  have hr := B.returns
  have hts := atoms_spec (ws := .code yX5_init cX5_init 2 none :: gw) B.pre
  have hg : ∀ w ∈ gw, w.before _ s = true := fun w h => hts w (List.mem_cons_of_mem _ h)
  have hown : s.vm.findClass RX5 = some m.cls := findClass_of_methodNamed B.named
  have hlocks := B.notSynchronized
  have hin : meth.name = "<init>" := (name_of_methodNamed B.named B.method).1
  subst hsz
  have hD := hD0.self (sz := s.heap.size)
  generalize hAe : va_A [(h0, .inr (5, [.int 0, .null]))] s.heap.size = A at hD ⊢
  have hA : ∀ q : Nat, s.heap.size ≤ q → A q := fun q h => by rw [← hAe]; exact Or.inr h
  have hS : va_S A s.heap s.heap [] := va_S.rf
  have hP : va_P (dC, dI) vwCl [(h0, .inr (5, [.int 0, .null]))] s.heap := hP
  have hl := lv_entry ([.ref h0, .int v1]) (n := 2) (Nat.le_of_ble_eq_true rfl)
  rw [lg_entry_eq]
  generalize (lg_sl ([.ref h0, .int v1]) ++ List.replicate (2 - (lg_sl ([.ref h0, .int v1])).length) Slot.unset).toArray = ls at hl ⊢
  have hl : lv_has ls 2 [(0, .ref h0), (1, .int v1)] := hl
  refine lv_aload_n hx hb dX5_init_0 rfl (lv_at hl 0 rfl) ?_
  refine W.objInit hx hb hown (hg _ gm_methodLink_RX5_3_objectInit) (hg _ gm_instanceMethod_objectInit) (hg _ gm_code_objectInit_oi_1_none) rfl (by rw [hml]; exact hl.1) rfl dX5_init_1 (Nat.le_of_ble_eq_true rfl) (Nat.le_of_ble_eq_true rfl) ?_
  refine W.eq (g2 := F0 m 4 ls []) rfl ?_
  refine lv_aload_n hx hb dX5_init_4 rfl (lv_at hl 0 rfl) ?_
  refine lv_iload_n hx hb dX5_init_5 rfl (lv_at hl 1 rfl) ?_
  refine va_putF (D := (dC, dI)) (ci := 5) (v := .int v1) (ty := .int) (C := RX5) (T := TX5) (N := 2) hx hb hg gb_5 tyX5 tyX5_ok nmX5 hown hK hP hD hS 0 rfl rfl 0 (by decide) (hg _ gm_fieldLink_RX5_9_ErrandGuild_Ledger_limit_I_) (fun _ h9 => h9) rfl hin rfl (by decide +kernel) rfl rfl (Nat.le_of_ble_eq_true rfl) dX5_init_6 (fun H locs hP hD hS => ?_)
  have hP : va_P (dC, dI) vwCl [(h0, .inr (5, [.int v1, .null]))] H := hP
  have hD : va_D A [(h0, .inr (5, [.int v1, .null]))] := hD
  refine lv_aload_n hx hb dX5_init_9 rfl (lv_at hl 0 rfl) ?_
  refine va_new (ci := 0) (fs := [.int 0, .null, .int 0]) (C := RX0) (T := TX0) (N := 3) hx hb hg gb_0 tyX0 tyX0_ok hown (hg _ gm_classLink_RX5_15_RX0) (hg _ gm_instantiable_RX0_3) (hg _ gm_initialized_RX0) hK hP hD hS hA rfl df_X0 (Nat.le_of_ble_eq_true rfl) (Nat.le_of_ble_eq_true rfl) dX5_init_10 (fun q_1 H hP hD hS => ?_)
  have hP : va_P (dC, dI) vwCl [(h0, .inr (5, [.int v1, .null])), (q_1, .inr (0, [.int 0, .null, .int 0]))] H := hP
  have hD : va_D A [(h0, .inr (5, [.int v1, .null])), (q_1, .inr (0, [.int 0, .null, .int 0]))] := hD
  refine W.widen (k := 1) (n := 3) (Nat.le_of_ble_eq_true rfl) (Nat.le_of_ble_eq_true rfl) ?_
  refine lv_dup hx hb dX5_init_13 rfl ?_
  refine lv_iconst (v := 4) hx hb dX5_init_14 (by decide) ?_
  refine lv_iload_n hx hb dX5_init_15 rfl (lv_at hl 1 rfl) ?_
  refine lv_imul hx hb dX5_init_16 ?_
  refine lv_topi (fun z_2 ez_2 => ?_)
  have hPc := hP.sub (ws' := [(q_1, .inr (0, [.int 0, .null, .int 0]))]) [1] rfl
  have hDc := hD.sub (ws' := [(q_1, .inr (0, [.int 0, .null, .int 0]))]) [1] (by decide) rfl
  have hKc := hK.sub (tys' := []) [] rfl
  have hFc := va_free (wc := [(q_1, .inr (0, [.int 0, .null, .int 0]))]) hD hS hA [1] rfl
  refine va_callv (va_runI (As := [.int z_2]) (rest := [.ref q_1, .ref h0]) ⟨hx, hb, hml, hown, hg⟩ (c_X0_init l dC dI q_1 z_2 H.size ) (cwI 1 hg (gw_c gm_code_yX0_init_cX0_init_2_none) rfl rfl rfl (hg _ gm_initialized_RX0) (hg _ gm_methodLink_RX5_17_yX0_init) (hg _ gm_instanceMethod_yX0_init) rfl (by decide +kernel) ⟨Nat.le_of_ble_eq_true rfl, Nat.le_of_ble_eq_true rfl⟩) ⟨fun a U g mk q => by obtain ⟨q0, q1, qP, qK, qD, qN⟩ := q; exact ⟨q0, q1, qP, va_K.moved (u := U) (U := U.calling g mk a) (Vm.Alike.refl U.vm) qK, qD, nx_same (u := U) (U := U.calling g mk a) rfl qN⟩, fun U hU hW => ⟨rfl, by rw [hU], by rw [hU]; exact hPc, va_K.moved hW.alike hKc, hDc.weaken (fun _ _ _ _ => trivial), nx_warm hW hN⟩⟩ rfl rfl hl.1 rfl (lv_room (Nat.le_of_ble_eq_true rfl)) dX5_init_17 ⟨Nat.le_of_ble_eq_true rfl, Nat.le_of_ble_eq_true rfl⟩) hS (fun q _ h => hFc q h) hFc (fun u_4 t H1 locs ht hvm hw hB hz1 hk1 hS => ?_)
  obtain ⟨ad_5, ac_6, af_7, ag_8⟩ := u_4
  obtain ⟨hP1, hD1, hK1⟩ := hB
  rw [ht] at hP1
  have hK1 := va_K.moved hvm.symm hK1
  obtain ⟨hP, hD⟩ := va_join (wr := [(h0, .inr (5, [.int v1, .null]))]) (w1 := [(q_1, .inr (0, [.int z_2, .ref (ad_5 0), .int 0])), ((ad_5 0), .inl ((ac_6 0), 16, .inl (fun _ => 0)))]) hP hD [1] [0] rfl rfl (by decide) (by decide +kernel) hk1 hFc hP1 hD1
  have hK := hK.app hK1
  generalize H1 = H at hP hS ⊢
  have hK : va_K (dC, dI) vwCl [((ac_6 0), .int)] s := hK
  have hP : va_P (dC, dI) vwCl [(h0, .inr (5, [.int v1, .null])), (q_1, .inr (0, [.int z_2, .ref (ad_5 0), .int 0])), ((ad_5 0), .inl ((ac_6 0), 16, .inl (fun _ => 0)))] H := hP
  have hD : va_D A [(h0, .inr (5, [.int v1, .null])), (q_1, .inr (0, [.int z_2, .ref (ad_5 0), .int 0])), ((ad_5 0), .inl ((ac_6 0), 16, .inl (fun _ => 0)))] := hD
  refine W.widen (k := 2) (n := 19) (Nat.le_of_ble_eq_true rfl) (Nat.le_of_ble_eq_true rfl) ?_
  refine va_putF (D := (dC, dI)) (ci := 5) (v := .ref q_1) (ty := .object "ErrandGuild$Cells") (C := RX5) (T := TX5) (N := 2) hx hb hg gb_5 tyX5 tyX5_ok nmX5 hown hK hP hD hS 0 rfl rfl 1 (by decide) (hg _ gm_fieldLink_RX5_20_ErrandGuild_Ledger_cells_LErrandGuild_Cells_) (fun _ h9 => h9) rfl hin rfl (by decide +kernel) rfl rfl (Nat.le_of_ble_eq_true rfl) dX5_init_20 (fun H locs hP hD hS => ?_)
  have hP : va_P (dC, dI) vwCl [(h0, .inr (5, [.int v1, .ref q_1])), (q_1, .inr (0, [.int z_2, .ref (ad_5 0), .int 0])), ((ad_5 0), .inl ((ac_6 0), 16, .inl (fun _ => 0)))] H := hP
  have hD : va_D A [(h0, .inr (5, [.int v1, .ref q_1])), (q_1, .inr (0, [.int z_2, .ref (ad_5 0), .int 0])), ((ad_5 0), .inl ((ac_6 0), 16, .inl (fun _ => 0)))] := hD
  have hP9 := hP.sub (ws' := [(h0, .inr (5, [.int v1, .ref q_1])), (q_1, .inr (0, [.int z_2, .ref (ad_5 0), .int 0])), ((ad_5 0), .inl ((ac_6 0), 16, .inl (fun _ => 0)))]) [0, 1, 2] rfl
  have hD9 := hD.sub (ws' := [(h0, .inr (5, [.int v1, .ref q_1])), (q_1, .inr (0, [.int z_2, .ref (ad_5 0), .int 0])), ((ad_5 0), .inl ((ac_6 0), 16, .inl (fun _ => 0)))]) [0, 1, 2] (by decide) rfl
  have hK9 := hK.sub (tys' := [((ac_6 0), .int)]) [0] rfl
  exact W.vret hx hb hr (fun t ht hW => ⟨⟨((fun k => ([q_1, (ad_5 0)] : List Nat).getD k 0), (fun k => ([(ac_6 0)] : List ClassId).getD k (dC 0)), (fun k => ([(fun _ => z_2)] : List (Nat → Int32)).getD k (fun _ => 0)), (fun _ => (fun _ => none))), rfl, ez_2, by rw [ht]; exact hP9, hD9, va_K.moved hW.alike hK9⟩, hS.F ht⟩) hS.2.2 dX5_init_23

set_option maxHeartbeats 4000000 in
set_option maxRecDepth 100000 in
theorem c_X4_init (l : Launch) (dC : Nat → ClassId) (dI : Nat → Nat → Nat) (h0 : Nat) (sz : Nat)  : Met l yX4_init (.code yX4_init cX4_init 1 none :: gw) ({ frames := 1, cells := 0, slots := 0, locals := 20 }) (va_Pc [.ref h0] (fun U => U.heap.size = sz ∧ va_P (dC, dI) vwCl [(h0, .inr (4, [.null, .null, .int 0, .int 0, .int 0, .null, .null, .null, .int 0]))] U.heap ∧ va_K (dC, dI) vwCl [] U ∧ va_D (fun _ => True) [(h0, .inr (4, [.null, .null, .int 0, .int 0, .int 0, .null, .null, .null, .int 0]))] ∧ nx U)) (va_Qv (fun (u : Unit) => True) (fun _ t => va_P (dC, dI) vwCl [(h0, .inr (4, [.null, .null, .int 0, .int 0, .int 0, .null, .null, .null, .int 0]))] t.heap ∧ va_D (va_A [(h0, .inr (4, [.null, .null, .int 0, .int 0, .int 0, .null, .null, .null, .int 0]))] sz) [(h0, .inr (4, [.null, .null, .int 0, .int 0, .int 0, .null, .null, .null, .int 0]))]) (va_A [(h0, .inr (4, [.null, .null, .int 0, .int 0, .int 0, .null, .null, .null, .int 0]))] sz)) 0 0 (va_A [(h0, .inr (4, [.null, .null, .int 0, .int 0, .int 0, .null, .null, .null, .int 0]))] sz) := by
  refine Met.ofW (cc := cX4_init) (maxL := 1) (ret := none) (by decide) rfl ?_
  intro p e s m args below meth c s₁ B hml hv
  obtain ⟨rfl, hsz, hP, hK, hD0, hN⟩ := hv
  have hx := B.exec
  have hb := B.bytes
  have hr := B.returns
  have hts := atoms_spec (ws := .code yX4_init cX4_init 1 none :: gw) B.pre
  have hg : ∀ w ∈ gw, w.before _ s = true := fun w h => hts w (List.mem_cons_of_mem _ h)
  have hown : s.vm.findClass RX4 = some m.cls := findClass_of_methodNamed B.named
  have hlocks := B.notSynchronized
  have hin : meth.name = "<init>" := (name_of_methodNamed B.named B.method).1
  subst hsz
  have hD := hD0.self (sz := s.heap.size)
  generalize hAe : va_A [(h0, .inr (4, [.null, .null, .int 0, .int 0, .int 0, .null, .null, .null, .int 0]))] s.heap.size = A at hD ⊢
  have hA : ∀ q : Nat, s.heap.size ≤ q → A q := fun q h => by rw [← hAe]; exact Or.inr h
  have hS : va_S A s.heap s.heap [] := va_S.rf
  have hP : va_P (dC, dI) vwCl [(h0, .inr (4, [.null, .null, .int 0, .int 0, .int 0, .null, .null, .null, .int 0]))] s.heap := hP
  have hl := lv_entry ([.ref h0]) (n := 1) (Nat.le_of_ble_eq_true rfl)
  rw [lg_entry_eq]
  generalize (lg_sl ([.ref h0]) ++ List.replicate (1 - (lg_sl ([.ref h0])).length) Slot.unset).toArray = ls at hl ⊢
  have hl : lv_has ls 1 [(0, .ref h0)] := hl
  refine lv_aload_n hx hb dX4_init_0 rfl (lv_at hl 0 rfl) ?_
  refine W.objInit hx hb hown (hg _ gm_methodLink_RX4_3_objectInit) (hg _ gm_instanceMethod_objectInit) (hg _ gm_code_objectInit_oi_1_none) rfl (by rw [hml]; exact hl.1) rfl dX4_init_1 (Nat.le_of_ble_eq_true rfl) (Nat.le_of_ble_eq_true rfl) ?_
  refine W.eq (g2 := F0 m 4 ls []) rfl ?_
  have hP9 := hP.sub (ws' := [(h0, .inr (4, [.null, .null, .int 0, .int 0, .int 0, .null, .null, .null, .int 0]))]) [0] rfl
  have hD9 := hD.sub (ws' := [(h0, .inr (4, [.null, .null, .int 0, .int 0, .int 0, .null, .null, .null, .int 0]))]) [0] (by decide) rfl
  exact W.vret hx hb hr (fun t ht hW => ⟨⟨(), rfl, trivial, by rw [ht]; exact hP9, hD9⟩, hS.F ht⟩) hS.2.2 dX4_init_4

set_option maxHeartbeats 4000000 in
set_option maxRecDepth 100000 in
theorem c_X2_init (l : Launch) (dC : Nat → ClassId) (dI : Nat → Nat → Nat) (h0 : Nat) (sz : Nat)  : Met l yX2_init (.code yX2_init cX2_init 1 none :: gw) ({ frames := 1, cells := 0, slots := 0, locals := 20 }) (va_Pc [.ref h0] (fun U => U.heap.size = sz ∧ va_P (dC, dI) vwCl [(h0, .inr (2, [.int 0, .int 0, .int 0, .int 0, .int 0]))] U.heap ∧ va_K (dC, dI) vwCl [] U ∧ va_D (fun _ => True) [(h0, .inr (2, [.int 0, .int 0, .int 0, .int 0, .int 0]))] ∧ nx U)) (va_Qv (fun (u : Unit) => True) (fun _ t => va_P (dC, dI) vwCl [(h0, .inr (2, [.int 0, .int 0, .int 0, .int 0, .int 0]))] t.heap ∧ va_D (va_A [(h0, .inr (2, [.int 0, .int 0, .int 0, .int 0, .int 0]))] sz) [(h0, .inr (2, [.int 0, .int 0, .int 0, .int 0, .int 0]))]) (va_A [(h0, .inr (2, [.int 0, .int 0, .int 0, .int 0, .int 0]))] sz)) 0 0 (va_A [(h0, .inr (2, [.int 0, .int 0, .int 0, .int 0, .int 0]))] sz) := by
  refine Met.ofW (cc := cX2_init) (maxL := 1) (ret := none) (by decide) rfl ?_
  intro p e s m args below meth c s₁ B hml hv
  obtain ⟨rfl, hsz, hP, hK, hD0, hN⟩ := hv
  have hx := B.exec
  have hb := B.bytes
  have hr := B.returns
  have hts := atoms_spec (ws := .code yX2_init cX2_init 1 none :: gw) B.pre
  have hg : ∀ w ∈ gw, w.before _ s = true := fun w h => hts w (List.mem_cons_of_mem _ h)
  have hown : s.vm.findClass RX2 = some m.cls := findClass_of_methodNamed B.named
  have hlocks := B.notSynchronized
  have hin : meth.name = "<init>" := (name_of_methodNamed B.named B.method).1
  subst hsz
  have hD := hD0.self (sz := s.heap.size)
  generalize hAe : va_A [(h0, .inr (2, [.int 0, .int 0, .int 0, .int 0, .int 0]))] s.heap.size = A at hD ⊢
  have hA : ∀ q : Nat, s.heap.size ≤ q → A q := fun q h => by rw [← hAe]; exact Or.inr h
  have hS : va_S A s.heap s.heap [] := va_S.rf
  have hP : va_P (dC, dI) vwCl [(h0, .inr (2, [.int 0, .int 0, .int 0, .int 0, .int 0]))] s.heap := hP
  have hl := lv_entry ([.ref h0]) (n := 1) (Nat.le_of_ble_eq_true rfl)
  rw [lg_entry_eq]
  generalize (lg_sl ([.ref h0]) ++ List.replicate (1 - (lg_sl ([.ref h0])).length) Slot.unset).toArray = ls at hl ⊢
  have hl : lv_has ls 1 [(0, .ref h0)] := hl
  refine lv_aload_n hx hb dX2_init_0 rfl (lv_at hl 0 rfl) ?_
  refine W.objInit hx hb hown (hg _ gm_methodLink_RX2_3_objectInit) (hg _ gm_instanceMethod_objectInit) (hg _ gm_code_objectInit_oi_1_none) rfl (by rw [hml]; exact hl.1) rfl dX2_init_1 (Nat.le_of_ble_eq_true rfl) (Nat.le_of_ble_eq_true rfl) ?_
  refine W.eq (g2 := F0 m 4 ls []) rfl ?_
  have hP9 := hP.sub (ws' := [(h0, .inr (2, [.int 0, .int 0, .int 0, .int 0, .int 0]))]) [0] rfl
  have hD9 := hD.sub (ws' := [(h0, .inr (2, [.int 0, .int 0, .int 0, .int 0, .int 0]))]) [0] (by decide) rfl
  exact W.vret hx hb hr (fun t ht hW => ⟨⟨(), rfl, trivial, by rw [ht]; exact hP9, hD9⟩, hS.F ht⟩) hS.2.2 dX2_init_4

set_option maxHeartbeats 4000000 in
set_option maxRecDepth 100000 in
theorem c_X6_init (l : Launch) (dC : Nat → ClassId) (dI : Nat → Nat → Nat) (h0 : Nat) (sz : Nat)  : Met l yX6_init (.code yX6_init cX6_init 1 none :: gw) ({ frames := 1, cells := 3, slots := 24, locals := 20 }) (va_Pc [.ref h0] (fun U => U.heap.size = sz ∧ va_P (dC, dI) vwCl [(h0, .inr (6, [.null, .null, .null]))] U.heap ∧ va_K (dC, dI) vwCl [] U ∧ va_D (fun _ => True) [(h0, .inr (6, [.null, .null, .null]))] ∧ nx U)) (va_Qv (fun (u : wS) => True) (fun u t => va_P (dC, dI) vwCl [(h0, .inr (6, [.ref (u.1 0), .ref (u.1 1), .ref (u.1 2)])), ((u.1 0), .inl ((u.2.1 0), 8, .inl (fun _ => 0))), ((u.1 1), .inl ((u.2.1 1), 8, .inl (fun _ => 0))), ((u.1 2), .inl ((u.2.1 2), 8, .inl (fun _ => 0)))] t.heap ∧ va_D (va_A [(h0, .inr (6, [.null, .null, .null]))] sz) [(h0, .inr (6, [.ref (u.1 0), .ref (u.1 1), .ref (u.1 2)])), ((u.1 0), .inl ((u.2.1 0), 8, .inl (fun _ => 0))), ((u.1 1), .inl ((u.2.1 1), 8, .inl (fun _ => 0))), ((u.1 2), .inl ((u.2.1 2), 8, .inl (fun _ => 0)))] ∧ va_K (dC, dI) vwCl [((u.2.1 0), .boolean), ((u.2.1 1), .int), ((u.2.1 2), .int)] t) (va_A [(h0, .inr (6, [.null, .null, .null]))] sz)) 3 24 (va_A [(h0, .inr (6, [.null, .null, .null]))] sz) := by
  refine Met.ofW (cc := cX6_init) (maxL := 1) (ret := none) (by decide) rfl ?_
  intro p e s m args below meth c s₁ B hml hv
  obtain ⟨rfl, hsz, hP, hK, hD0, hN⟩ := hv
  have hx := B.exec
  have hb := B.bytes
  have hr := B.returns
  have hts := atoms_spec (ws := .code yX6_init cX6_init 1 none :: gw) B.pre
  have hg : ∀ w ∈ gw, w.before _ s = true := fun w h => hts w (List.mem_cons_of_mem _ h)
  have hown : s.vm.findClass RX6 = some m.cls := findClass_of_methodNamed B.named
  have hlocks := B.notSynchronized
  have hin : meth.name = "<init>" := (name_of_methodNamed B.named B.method).1
  subst hsz
  have hD := hD0.self (sz := s.heap.size)
  generalize hAe : va_A [(h0, .inr (6, [.null, .null, .null]))] s.heap.size = A at hD ⊢
  have hA : ∀ q : Nat, s.heap.size ≤ q → A q := fun q h => by rw [← hAe]; exact Or.inr h
  have hS : va_S A s.heap s.heap [] := va_S.rf
  have hP : va_P (dC, dI) vwCl [(h0, .inr (6, [.null, .null, .null]))] s.heap := hP
  have hl := lv_entry ([.ref h0]) (n := 1) (Nat.le_of_ble_eq_true rfl)
  rw [lg_entry_eq]
  generalize (lg_sl ([.ref h0]) ++ List.replicate (1 - (lg_sl ([.ref h0])).length) Slot.unset).toArray = ls at hl ⊢
  have hl : lv_has ls 1 [(0, .ref h0)] := hl
  refine lv_aload_n hx hb dX6_init_0 rfl (lv_at hl 0 rfl) ?_
  refine W.objInit hx hb hown (hg _ gm_methodLink_RX6_3_objectInit) (hg _ gm_instanceMethod_objectInit) (hg _ gm_code_objectInit_oi_1_none) rfl (by rw [hml]; exact hl.1) rfl dX6_init_1 (Nat.le_of_ble_eq_true rfl) (Nat.le_of_ble_eq_true rfl) ?_
  refine W.eq (g2 := F0 m 4 ls []) rfl ?_
  refine lv_aload_n hx hb dX6_init_4 rfl (lv_at hl 0 rfl) ?_
  refine lv_bipush (v := 8) hx hb dX6_init_5 (by decide) ?_
  refine va_newa (atype := .boolean) (ty := .boolean) (N' := 8) (a0 := (8, .inl (fun _ => 0))) hx hb (hg _ gm_arrayClass_boolean) rfl hK hP hD hS hA (fun _ => rfl) (by decide) (by decide) (Nat.le_of_ble_eq_true rfl) (Nat.le_of_ble_eq_true rfl) (Nat.le_of_ble_eq_true rfl) dX6_init_7 (fun q_1 k_2 H hK hP hD hS => ?_)
  have hK : va_K (dC, dI) vwCl [(k_2, .boolean)] s := hK
  have hP : va_P (dC, dI) vwCl [(h0, .inr (6, [.null, .null, .null])), (q_1, .inl (k_2, 8, .inl (fun _ => 0)))] H := hP
  have hD : va_D A [(h0, .inr (6, [.null, .null, .null])), (q_1, .inl (k_2, 8, .inl (fun _ => 0)))] := hD
  refine W.widen (k := 1) (n := 8) (Nat.le_of_ble_eq_true rfl) (Nat.le_of_ble_eq_true rfl) ?_
  refine va_putF (D := (dC, dI)) (ci := 6) (v := .ref q_1) (ty := .array .boolean) (C := RX6) (T := TX6) (N := 3) hx hb hg gb_6 tyX6 tyX6_ok nmX6 hown hK hP hD hS 0 rfl rfl 0 (by decide) (hg _ gm_fieldLink_RX6_9_ErrandGuild_Memory_wrote_AZ_) (fun _ h9 => h9) rfl hin rfl (by decide +kernel) rfl rfl (Nat.le_of_ble_eq_true rfl) dX6_init_9 (fun H locs hP hD hS => ?_)
  have hP : va_P (dC, dI) vwCl [(h0, .inr (6, [.ref q_1, .null, .null])), (q_1, .inl (k_2, 8, .inl (fun _ => 0)))] H := hP
  have hD : va_D A [(h0, .inr (6, [.ref q_1, .null, .null])), (q_1, .inl (k_2, 8, .inl (fun _ => 0)))] := hD
  refine lv_aload_n hx hb dX6_init_12 rfl (lv_at hl 0 rfl) ?_
  refine lv_bipush (v := 8) hx hb dX6_init_13 (by decide) ?_
  refine va_newa (atype := .int) (ty := .int) (N' := 8) (a0 := (8, .inl (fun _ => 0))) hx hb (hg _ gm_arrayClass_int) rfl hK hP hD hS hA (fun _ => rfl) (by decide) (by decide) (Nat.le_of_ble_eq_true rfl) (Nat.le_of_ble_eq_true rfl) (Nat.le_of_ble_eq_true rfl) dX6_init_15 (fun q_3 k_4 H hK hP hD hS => ?_)
  have hK : va_K (dC, dI) vwCl [(k_2, .boolean), (k_4, .int)] s := hK
  have hP : va_P (dC, dI) vwCl [(h0, .inr (6, [.ref q_1, .null, .null])), (q_1, .inl (k_2, 8, .inl (fun _ => 0))), (q_3, .inl (k_4, 8, .inl (fun _ => 0)))] H := hP
  have hD : va_D A [(h0, .inr (6, [.ref q_1, .null, .null])), (q_1, .inl (k_2, 8, .inl (fun _ => 0))), (q_3, .inl (k_4, 8, .inl (fun _ => 0)))] := hD
  refine W.widen (k := 2) (n := 16) (Nat.le_of_ble_eq_true rfl) (Nat.le_of_ble_eq_true rfl) ?_
  refine va_putF (D := (dC, dI)) (ci := 6) (v := .ref q_3) (ty := .array .int) (C := RX6) (T := TX6) (N := 3) hx hb hg gb_6 tyX6 tyX6_ok nmX6 hown hK hP hD hS 0 rfl rfl 1 (by decide) (hg _ gm_fieldLink_RX6_15_ErrandGuild_Memory_written_AI_) (fun _ h9 => h9) rfl hin rfl (by decide +kernel) rfl rfl (Nat.le_of_ble_eq_true rfl) dX6_init_17 (fun H locs hP hD hS => ?_)
  have hP : va_P (dC, dI) vwCl [(h0, .inr (6, [.ref q_1, .ref q_3, .null])), (q_1, .inl (k_2, 8, .inl (fun _ => 0))), (q_3, .inl (k_4, 8, .inl (fun _ => 0)))] H := hP
  have hD : va_D A [(h0, .inr (6, [.ref q_1, .ref q_3, .null])), (q_1, .inl (k_2, 8, .inl (fun _ => 0))), (q_3, .inl (k_4, 8, .inl (fun _ => 0)))] := hD
  refine lv_aload_n hx hb dX6_init_20 rfl (lv_at hl 0 rfl) ?_
  refine lv_bipush (v := 8) hx hb dX6_init_21 (by decide) ?_
  refine va_newa (atype := .int) (ty := .int) (N' := 8) (a0 := (8, .inl (fun _ => 0))) hx hb (hg _ gm_arrayClass_int) rfl hK hP hD hS hA (fun _ => rfl) (by decide) (by decide) (Nat.le_of_ble_eq_true rfl) (Nat.le_of_ble_eq_true rfl) (Nat.le_of_ble_eq_true rfl) dX6_init_23 (fun q_5 k_6 H hK hP hD hS => ?_)
  have hK : va_K (dC, dI) vwCl [(k_2, .boolean), (k_4, .int), (k_6, .int)] s := hK
  have hP : va_P (dC, dI) vwCl [(h0, .inr (6, [.ref q_1, .ref q_3, .null])), (q_1, .inl (k_2, 8, .inl (fun _ => 0))), (q_3, .inl (k_4, 8, .inl (fun _ => 0))), (q_5, .inl (k_6, 8, .inl (fun _ => 0)))] H := hP
  have hD : va_D A [(h0, .inr (6, [.ref q_1, .ref q_3, .null])), (q_1, .inl (k_2, 8, .inl (fun _ => 0))), (q_3, .inl (k_4, 8, .inl (fun _ => 0))), (q_5, .inl (k_6, 8, .inl (fun _ => 0)))] := hD
  refine W.widen (k := 3) (n := 24) (Nat.le_of_ble_eq_true rfl) (Nat.le_of_ble_eq_true rfl) ?_
  refine va_putF (D := (dC, dI)) (ci := 6) (v := .ref q_5) (ty := .array .int) (C := RX6) (T := TX6) (N := 3) hx hb hg gb_6 tyX6 tyX6_ok nmX6 hown hK hP hD hS 0 rfl rfl 2 (by decide) (hg _ gm_fieldLink_RX6_19_ErrandGuild_Memory_given_AI_) (fun _ h9 => h9) rfl hin rfl (by decide +kernel) rfl rfl (Nat.le_of_ble_eq_true rfl) dX6_init_25 (fun H locs hP hD hS => ?_)
  have hP : va_P (dC, dI) vwCl [(h0, .inr (6, [.ref q_1, .ref q_3, .ref q_5])), (q_1, .inl (k_2, 8, .inl (fun _ => 0))), (q_3, .inl (k_4, 8, .inl (fun _ => 0))), (q_5, .inl (k_6, 8, .inl (fun _ => 0)))] H := hP
  have hD : va_D A [(h0, .inr (6, [.ref q_1, .ref q_3, .ref q_5])), (q_1, .inl (k_2, 8, .inl (fun _ => 0))), (q_3, .inl (k_4, 8, .inl (fun _ => 0))), (q_5, .inl (k_6, 8, .inl (fun _ => 0)))] := hD
  have hP9 := hP.sub (ws' := [(h0, .inr (6, [.ref q_1, .ref q_3, .ref q_5])), (q_1, .inl (k_2, 8, .inl (fun _ => 0))), (q_3, .inl (k_4, 8, .inl (fun _ => 0))), (q_5, .inl (k_6, 8, .inl (fun _ => 0)))]) [0, 1, 2, 3] rfl
  have hD9 := hD.sub (ws' := [(h0, .inr (6, [.ref q_1, .ref q_3, .ref q_5])), (q_1, .inl (k_2, 8, .inl (fun _ => 0))), (q_3, .inl (k_4, 8, .inl (fun _ => 0))), (q_5, .inl (k_6, 8, .inl (fun _ => 0)))]) [0, 1, 2, 3] (by decide) rfl
  have hK9 := hK.sub (tys' := [(k_2, .boolean), (k_4, .int), (k_6, .int)]) [0, 1, 2] rfl
  exact W.vret hx hb hr (fun t ht hW => ⟨⟨((fun k => ([q_1, q_3, q_5] : List Nat).getD k 0), (fun k => ([k_2, k_4, k_6] : List ClassId).getD k (dC 0)), (fun _ => (fun _ => 0)), (fun _ => (fun _ => none))), rfl, trivial, by rw [ht]; exact hP9, hD9, va_K.moved hW.alike hK9⟩, hS.F ht⟩) hS.2.2 dX6_init_28

set_option maxHeartbeats 4000000 in
set_option maxRecDepth 100000 in
theorem c_X8_init (l : Launch) (dC : Nat → ClassId) (dI : Nat → Nat → Nat) (h0 : Nat) (sz : Nat)  : Met l yX8_init (.code yX8_init cX8_init 1 none :: gw) ({ frames := 1, cells := 6, slots := 144, locals := 20 }) (va_Pc [.ref h0] (fun U => U.heap.size = sz ∧ va_P (dC, dI) vwCl [(h0, .inr (8, [.null, .null, .null, .int 0, .null, .null, .null, .int 0, .int 0]))] U.heap ∧ va_K (dC, dI) vwCl [] U ∧ va_D (fun _ => True) [(h0, .inr (8, [.null, .null, .null, .int 0, .null, .null, .null, .int 0, .int 0]))] ∧ nx U)) (va_Qv (fun (u : wS) => True) (fun u t => va_P (dC, dI) vwCl [(h0, .inr (8, [.ref (u.1 0), .ref (u.1 1), .ref (u.1 2), .int 0, .ref (u.1 3), .ref (u.1 4), .ref (u.1 5), .int 0, .int 0])), ((u.1 0), .inl ((u.2.1 0), 24, .inl (fun _ => 0))), ((u.1 1), .inl ((u.2.1 1), 24, .inl (fun _ => 0))), ((u.1 2), .inl ((u.2.1 2), 24, .inl (fun _ => 0))), ((u.1 3), .inl ((u.2.1 3), 24, .inl (fun _ => 0))), ((u.1 4), .inl ((u.2.1 4), 24, .inl (fun _ => 0))), ((u.1 5), .inl ((u.2.1 5), 24, .inl (fun _ => 0)))] t.heap ∧ va_D (va_A [(h0, .inr (8, [.null, .null, .null, .int 0, .null, .null, .null, .int 0, .int 0]))] sz) [(h0, .inr (8, [.ref (u.1 0), .ref (u.1 1), .ref (u.1 2), .int 0, .ref (u.1 3), .ref (u.1 4), .ref (u.1 5), .int 0, .int 0])), ((u.1 0), .inl ((u.2.1 0), 24, .inl (fun _ => 0))), ((u.1 1), .inl ((u.2.1 1), 24, .inl (fun _ => 0))), ((u.1 2), .inl ((u.2.1 2), 24, .inl (fun _ => 0))), ((u.1 3), .inl ((u.2.1 3), 24, .inl (fun _ => 0))), ((u.1 4), .inl ((u.2.1 4), 24, .inl (fun _ => 0))), ((u.1 5), .inl ((u.2.1 5), 24, .inl (fun _ => 0)))] ∧ va_K (dC, dI) vwCl [((u.2.1 0), .int), ((u.2.1 1), .int), ((u.2.1 2), .int), ((u.2.1 3), .int), ((u.2.1 4), .int), ((u.2.1 5), .int)] t) (va_A [(h0, .inr (8, [.null, .null, .null, .int 0, .null, .null, .null, .int 0, .int 0]))] sz)) 6 144 (va_A [(h0, .inr (8, [.null, .null, .null, .int 0, .null, .null, .null, .int 0, .int 0]))] sz) := by
  refine Met.ofW (cc := cX8_init) (maxL := 1) (ret := none) (by decide) rfl ?_
  intro p e s m args below meth c s₁ B hml hv
  obtain ⟨rfl, hsz, hP, hK, hD0, hN⟩ := hv
  have hx := B.exec
  have hb := B.bytes
  have hr := B.returns
  have hts := atoms_spec (ws := .code yX8_init cX8_init 1 none :: gw) B.pre
  have hg : ∀ w ∈ gw, w.before _ s = true := fun w h => hts w (List.mem_cons_of_mem _ h)
  have hown : s.vm.findClass RX8 = some m.cls := findClass_of_methodNamed B.named
  have hlocks := B.notSynchronized
  have hin : meth.name = "<init>" := (name_of_methodNamed B.named B.method).1
  subst hsz
  have hD := hD0.self (sz := s.heap.size)
  generalize hAe : va_A [(h0, .inr (8, [.null, .null, .null, .int 0, .null, .null, .null, .int 0, .int 0]))] s.heap.size = A at hD ⊢
  have hA : ∀ q : Nat, s.heap.size ≤ q → A q := fun q h => by rw [← hAe]; exact Or.inr h
  have hS : va_S A s.heap s.heap [] := va_S.rf
  have hP : va_P (dC, dI) vwCl [(h0, .inr (8, [.null, .null, .null, .int 0, .null, .null, .null, .int 0, .int 0]))] s.heap := hP
  have hl := lv_entry ([.ref h0]) (n := 1) (Nat.le_of_ble_eq_true rfl)
  rw [lg_entry_eq]
  generalize (lg_sl ([.ref h0]) ++ List.replicate (1 - (lg_sl ([.ref h0])).length) Slot.unset).toArray = ls at hl ⊢
  have hl : lv_has ls 1 [(0, .ref h0)] := hl
  refine lv_aload_n hx hb dX8_init_0 rfl (lv_at hl 0 rfl) ?_
  refine W.objInit hx hb hown (hg _ gm_methodLink_RX8_3_objectInit) (hg _ gm_instanceMethod_objectInit) (hg _ gm_code_objectInit_oi_1_none) rfl (by rw [hml]; exact hl.1) rfl dX8_init_1 (Nat.le_of_ble_eq_true rfl) (Nat.le_of_ble_eq_true rfl) ?_
  refine W.eq (g2 := F0 m 4 ls []) rfl ?_
  refine lv_aload_n hx hb dX8_init_4 rfl (lv_at hl 0 rfl) ?_
  refine lv_bipush (v := 24) hx hb dX8_init_5 (by decide) ?_
  refine va_newa (atype := .int) (ty := .int) (N' := 24) (a0 := (24, .inl (fun _ => 0))) hx hb (hg _ gm_arrayClass_int) rfl hK hP hD hS hA (fun _ => rfl) (by decide) (by decide) (Nat.le_of_ble_eq_true rfl) (Nat.le_of_ble_eq_true rfl) (Nat.le_of_ble_eq_true rfl) dX8_init_7 (fun q_1 k_2 H hK hP hD hS => ?_)
  have hK : va_K (dC, dI) vwCl [(k_2, .int)] s := hK
  have hP : va_P (dC, dI) vwCl [(h0, .inr (8, [.null, .null, .null, .int 0, .null, .null, .null, .int 0, .int 0])), (q_1, .inl (k_2, 24, .inl (fun _ => 0)))] H := hP
  have hD : va_D A [(h0, .inr (8, [.null, .null, .null, .int 0, .null, .null, .null, .int 0, .int 0])), (q_1, .inl (k_2, 24, .inl (fun _ => 0)))] := hD
  refine W.widen (k := 1) (n := 24) (Nat.le_of_ble_eq_true rfl) (Nat.le_of_ble_eq_true rfl) ?_
  refine va_putF (D := (dC, dI)) (ci := 8) (v := .ref q_1) (ty := .array .int) (C := RX8) (T := TX8) (N := 9) hx hb hg gb_8 tyX8 tyX8_ok nmX8 hown hK hP hD hS 0 rfl rfl 0 (by decide) (hg _ gm_fieldLink_RX8_9_ErrandGuild_Scopes_bindingSlots_AI_) (fun _ h9 => h9) rfl hin rfl (by decide +kernel) rfl rfl (Nat.le_of_ble_eq_true rfl) dX8_init_9 (fun H locs hP hD hS => ?_)
  have hP : va_P (dC, dI) vwCl [(h0, .inr (8, [.ref q_1, .null, .null, .int 0, .null, .null, .null, .int 0, .int 0])), (q_1, .inl (k_2, 24, .inl (fun _ => 0)))] H := hP
  have hD : va_D A [(h0, .inr (8, [.ref q_1, .null, .null, .int 0, .null, .null, .null, .int 0, .int 0])), (q_1, .inl (k_2, 24, .inl (fun _ => 0)))] := hD
  refine lv_aload_n hx hb dX8_init_12 rfl (lv_at hl 0 rfl) ?_
  refine lv_bipush (v := 24) hx hb dX8_init_13 (by decide) ?_
  refine va_newa (atype := .int) (ty := .int) (N' := 24) (a0 := (24, .inl (fun _ => 0))) hx hb (hg _ gm_arrayClass_int) rfl hK hP hD hS hA (fun _ => rfl) (by decide) (by decide) (Nat.le_of_ble_eq_true rfl) (Nat.le_of_ble_eq_true rfl) (Nat.le_of_ble_eq_true rfl) dX8_init_15 (fun q_3 k_4 H hK hP hD hS => ?_)
  have hK : va_K (dC, dI) vwCl [(k_2, .int), (k_4, .int)] s := hK
  have hP : va_P (dC, dI) vwCl [(h0, .inr (8, [.ref q_1, .null, .null, .int 0, .null, .null, .null, .int 0, .int 0])), (q_1, .inl (k_2, 24, .inl (fun _ => 0))), (q_3, .inl (k_4, 24, .inl (fun _ => 0)))] H := hP
  have hD : va_D A [(h0, .inr (8, [.ref q_1, .null, .null, .int 0, .null, .null, .null, .int 0, .int 0])), (q_1, .inl (k_2, 24, .inl (fun _ => 0))), (q_3, .inl (k_4, 24, .inl (fun _ => 0)))] := hD
  refine W.widen (k := 2) (n := 48) (Nat.le_of_ble_eq_true rfl) (Nat.le_of_ble_eq_true rfl) ?_
  refine va_putF (D := (dC, dI)) (ci := 8) (v := .ref q_3) (ty := .array .int) (C := RX8) (T := TX8) (N := 9) hx hb hg gb_8 tyX8 tyX8_ok nmX8 hown hK hP hD hS 0 rfl rfl 1 (by decide) (hg _ gm_fieldLink_RX8_15_ErrandGuild_Scopes_bindingValues_AI_) (fun _ h9 => h9) rfl hin rfl (by decide +kernel) rfl rfl (Nat.le_of_ble_eq_true rfl) dX8_init_17 (fun H locs hP hD hS => ?_)
  have hP : va_P (dC, dI) vwCl [(h0, .inr (8, [.ref q_1, .ref q_3, .null, .int 0, .null, .null, .null, .int 0, .int 0])), (q_1, .inl (k_2, 24, .inl (fun _ => 0))), (q_3, .inl (k_4, 24, .inl (fun _ => 0)))] H := hP
  have hD : va_D A [(h0, .inr (8, [.ref q_1, .ref q_3, .null, .int 0, .null, .null, .null, .int 0, .int 0])), (q_1, .inl (k_2, 24, .inl (fun _ => 0))), (q_3, .inl (k_4, 24, .inl (fun _ => 0)))] := hD
  refine lv_aload_n hx hb dX8_init_20 rfl (lv_at hl 0 rfl) ?_
  refine lv_bipush (v := 24) hx hb dX8_init_21 (by decide) ?_
  refine va_newa (atype := .int) (ty := .int) (N' := 24) (a0 := (24, .inl (fun _ => 0))) hx hb (hg _ gm_arrayClass_int) rfl hK hP hD hS hA (fun _ => rfl) (by decide) (by decide) (Nat.le_of_ble_eq_true rfl) (Nat.le_of_ble_eq_true rfl) (Nat.le_of_ble_eq_true rfl) dX8_init_23 (fun q_5 k_6 H hK hP hD hS => ?_)
  have hK : va_K (dC, dI) vwCl [(k_2, .int), (k_4, .int), (k_6, .int)] s := hK
  have hP : va_P (dC, dI) vwCl [(h0, .inr (8, [.ref q_1, .ref q_3, .null, .int 0, .null, .null, .null, .int 0, .int 0])), (q_1, .inl (k_2, 24, .inl (fun _ => 0))), (q_3, .inl (k_4, 24, .inl (fun _ => 0))), (q_5, .inl (k_6, 24, .inl (fun _ => 0)))] H := hP
  have hD : va_D A [(h0, .inr (8, [.ref q_1, .ref q_3, .null, .int 0, .null, .null, .null, .int 0, .int 0])), (q_1, .inl (k_2, 24, .inl (fun _ => 0))), (q_3, .inl (k_4, 24, .inl (fun _ => 0))), (q_5, .inl (k_6, 24, .inl (fun _ => 0)))] := hD
  refine W.widen (k := 3) (n := 72) (Nat.le_of_ble_eq_true rfl) (Nat.le_of_ble_eq_true rfl) ?_
  refine va_putF (D := (dC, dI)) (ci := 8) (v := .ref q_5) (ty := .array .int) (C := RX8) (T := TX8) (N := 9) hx hb hg gb_8 tyX8 tyX8_ok nmX8 hown hK hP hD hS 0 rfl rfl 2 (by decide) (hg _ gm_fieldLink_RX8_18_ErrandGuild_Scopes_bindingMarks_AI_) (fun _ h9 => h9) rfl hin rfl (by decide +kernel) rfl rfl (Nat.le_of_ble_eq_true rfl) dX8_init_25 (fun H locs hP hD hS => ?_)
  have hP : va_P (dC, dI) vwCl [(h0, .inr (8, [.ref q_1, .ref q_3, .ref q_5, .int 0, .null, .null, .null, .int 0, .int 0])), (q_1, .inl (k_2, 24, .inl (fun _ => 0))), (q_3, .inl (k_4, 24, .inl (fun _ => 0))), (q_5, .inl (k_6, 24, .inl (fun _ => 0)))] H := hP
  have hD : va_D A [(h0, .inr (8, [.ref q_1, .ref q_3, .ref q_5, .int 0, .null, .null, .null, .int 0, .int 0])), (q_1, .inl (k_2, 24, .inl (fun _ => 0))), (q_3, .inl (k_4, 24, .inl (fun _ => 0))), (q_5, .inl (k_6, 24, .inl (fun _ => 0)))] := hD
  refine lv_aload_n hx hb dX8_init_28 rfl (lv_at hl 0 rfl) ?_
  refine lv_bipush (v := 24) hx hb dX8_init_29 (by decide) ?_
  refine va_newa (atype := .int) (ty := .int) (N' := 24) (a0 := (24, .inl (fun _ => 0))) hx hb (hg _ gm_arrayClass_int) rfl hK hP hD hS hA (fun _ => rfl) (by decide) (by decide) (Nat.le_of_ble_eq_true rfl) (Nat.le_of_ble_eq_true rfl) (Nat.le_of_ble_eq_true rfl) dX8_init_31 (fun q_7 k_8 H hK hP hD hS => ?_)
  have hK : va_K (dC, dI) vwCl [(k_2, .int), (k_4, .int), (k_6, .int), (k_8, .int)] s := hK
  have hP : va_P (dC, dI) vwCl [(h0, .inr (8, [.ref q_1, .ref q_3, .ref q_5, .int 0, .null, .null, .null, .int 0, .int 0])), (q_1, .inl (k_2, 24, .inl (fun _ => 0))), (q_3, .inl (k_4, 24, .inl (fun _ => 0))), (q_5, .inl (k_6, 24, .inl (fun _ => 0))), (q_7, .inl (k_8, 24, .inl (fun _ => 0)))] H := hP
  have hD : va_D A [(h0, .inr (8, [.ref q_1, .ref q_3, .ref q_5, .int 0, .null, .null, .null, .int 0, .int 0])), (q_1, .inl (k_2, 24, .inl (fun _ => 0))), (q_3, .inl (k_4, 24, .inl (fun _ => 0))), (q_5, .inl (k_6, 24, .inl (fun _ => 0))), (q_7, .inl (k_8, 24, .inl (fun _ => 0)))] := hD
  refine W.widen (k := 4) (n := 96) (Nat.le_of_ble_eq_true rfl) (Nat.le_of_ble_eq_true rfl) ?_
  refine va_putF (D := (dC, dI)) (ci := 8) (v := .ref q_7) (ty := .array .int) (C := RX8) (T := TX8) (N := 9) hx hb hg gb_8 tyX8 tyX8_ok nmX8 hown hK hP hD hS 0 rfl rfl 4 (by decide) (hg _ gm_fieldLink_RX8_21_ErrandGuild_Scopes_tryKinds_AI_) (fun _ h9 => h9) rfl hin rfl (by decide +kernel) rfl rfl (Nat.le_of_ble_eq_true rfl) dX8_init_33 (fun H locs hP hD hS => ?_)
  have hP : va_P (dC, dI) vwCl [(h0, .inr (8, [.ref q_1, .ref q_3, .ref q_5, .int 0, .ref q_7, .null, .null, .int 0, .int 0])), (q_1, .inl (k_2, 24, .inl (fun _ => 0))), (q_3, .inl (k_4, 24, .inl (fun _ => 0))), (q_5, .inl (k_6, 24, .inl (fun _ => 0))), (q_7, .inl (k_8, 24, .inl (fun _ => 0)))] H := hP
  have hD : va_D A [(h0, .inr (8, [.ref q_1, .ref q_3, .ref q_5, .int 0, .ref q_7, .null, .null, .int 0, .int 0])), (q_1, .inl (k_2, 24, .inl (fun _ => 0))), (q_3, .inl (k_4, 24, .inl (fun _ => 0))), (q_5, .inl (k_6, 24, .inl (fun _ => 0))), (q_7, .inl (k_8, 24, .inl (fun _ => 0)))] := hD
  refine lv_aload_n hx hb dX8_init_36 rfl (lv_at hl 0 rfl) ?_
  refine lv_bipush (v := 24) hx hb dX8_init_37 (by decide) ?_
  refine va_newa (atype := .int) (ty := .int) (N' := 24) (a0 := (24, .inl (fun _ => 0))) hx hb (hg _ gm_arrayClass_int) rfl hK hP hD hS hA (fun _ => rfl) (by decide) (by decide) (Nat.le_of_ble_eq_true rfl) (Nat.le_of_ble_eq_true rfl) (Nat.le_of_ble_eq_true rfl) dX8_init_39 (fun q_9 k_10 H hK hP hD hS => ?_)
  have hK : va_K (dC, dI) vwCl [(k_2, .int), (k_4, .int), (k_6, .int), (k_8, .int), (k_10, .int)] s := hK
  have hP : va_P (dC, dI) vwCl [(h0, .inr (8, [.ref q_1, .ref q_3, .ref q_5, .int 0, .ref q_7, .null, .null, .int 0, .int 0])), (q_1, .inl (k_2, 24, .inl (fun _ => 0))), (q_3, .inl (k_4, 24, .inl (fun _ => 0))), (q_5, .inl (k_6, 24, .inl (fun _ => 0))), (q_7, .inl (k_8, 24, .inl (fun _ => 0))), (q_9, .inl (k_10, 24, .inl (fun _ => 0)))] H := hP
  have hD : va_D A [(h0, .inr (8, [.ref q_1, .ref q_3, .ref q_5, .int 0, .ref q_7, .null, .null, .int 0, .int 0])), (q_1, .inl (k_2, 24, .inl (fun _ => 0))), (q_3, .inl (k_4, 24, .inl (fun _ => 0))), (q_5, .inl (k_6, 24, .inl (fun _ => 0))), (q_7, .inl (k_8, 24, .inl (fun _ => 0))), (q_9, .inl (k_10, 24, .inl (fun _ => 0)))] := hD
  refine W.widen (k := 5) (n := 120) (Nat.le_of_ble_eq_true rfl) (Nat.le_of_ble_eq_true rfl) ?_
  refine va_putF (D := (dC, dI)) (ci := 8) (v := .ref q_9) (ty := .array .int) (C := RX8) (T := TX8) (N := 9) hx hb hg gb_8 tyX8 tyX8_ok nmX8 hown hK hP hD hS 0 rfl rfl 5 (by decide) (hg _ gm_fieldLink_RX8_24_ErrandGuild_Scopes_tryPlaces_AI_) (fun _ h9 => h9) rfl hin rfl (by decide +kernel) rfl rfl (Nat.le_of_ble_eq_true rfl) dX8_init_41 (fun H locs hP hD hS => ?_)
  have hP : va_P (dC, dI) vwCl [(h0, .inr (8, [.ref q_1, .ref q_3, .ref q_5, .int 0, .ref q_7, .ref q_9, .null, .int 0, .int 0])), (q_1, .inl (k_2, 24, .inl (fun _ => 0))), (q_3, .inl (k_4, 24, .inl (fun _ => 0))), (q_5, .inl (k_6, 24, .inl (fun _ => 0))), (q_7, .inl (k_8, 24, .inl (fun _ => 0))), (q_9, .inl (k_10, 24, .inl (fun _ => 0)))] H := hP
  have hD : va_D A [(h0, .inr (8, [.ref q_1, .ref q_3, .ref q_5, .int 0, .ref q_7, .ref q_9, .null, .int 0, .int 0])), (q_1, .inl (k_2, 24, .inl (fun _ => 0))), (q_3, .inl (k_4, 24, .inl (fun _ => 0))), (q_5, .inl (k_6, 24, .inl (fun _ => 0))), (q_7, .inl (k_8, 24, .inl (fun _ => 0))), (q_9, .inl (k_10, 24, .inl (fun _ => 0)))] := hD
  refine lv_aload_n hx hb dX8_init_44 rfl (lv_at hl 0 rfl) ?_
  refine lv_bipush (v := 24) hx hb dX8_init_45 (by decide) ?_
  refine va_newa (atype := .int) (ty := .int) (N' := 24) (a0 := (24, .inl (fun _ => 0))) hx hb (hg _ gm_arrayClass_int) rfl hK hP hD hS hA (fun _ => rfl) (by decide) (by decide) (Nat.le_of_ble_eq_true rfl) (Nat.le_of_ble_eq_true rfl) (Nat.le_of_ble_eq_true rfl) dX8_init_47 (fun q_11 k_12 H hK hP hD hS => ?_)
  have hK : va_K (dC, dI) vwCl [(k_2, .int), (k_4, .int), (k_6, .int), (k_8, .int), (k_10, .int), (k_12, .int)] s := hK
  have hP : va_P (dC, dI) vwCl [(h0, .inr (8, [.ref q_1, .ref q_3, .ref q_5, .int 0, .ref q_7, .ref q_9, .null, .int 0, .int 0])), (q_1, .inl (k_2, 24, .inl (fun _ => 0))), (q_3, .inl (k_4, 24, .inl (fun _ => 0))), (q_5, .inl (k_6, 24, .inl (fun _ => 0))), (q_7, .inl (k_8, 24, .inl (fun _ => 0))), (q_9, .inl (k_10, 24, .inl (fun _ => 0))), (q_11, .inl (k_12, 24, .inl (fun _ => 0)))] H := hP
  have hD : va_D A [(h0, .inr (8, [.ref q_1, .ref q_3, .ref q_5, .int 0, .ref q_7, .ref q_9, .null, .int 0, .int 0])), (q_1, .inl (k_2, 24, .inl (fun _ => 0))), (q_3, .inl (k_4, 24, .inl (fun _ => 0))), (q_5, .inl (k_6, 24, .inl (fun _ => 0))), (q_7, .inl (k_8, 24, .inl (fun _ => 0))), (q_9, .inl (k_10, 24, .inl (fun _ => 0))), (q_11, .inl (k_12, 24, .inl (fun _ => 0)))] := hD
  refine W.widen (k := 6) (n := 144) (Nat.le_of_ble_eq_true rfl) (Nat.le_of_ble_eq_true rfl) ?_
  refine va_putF (D := (dC, dI)) (ci := 8) (v := .ref q_11) (ty := .array .int) (C := RX8) (T := TX8) (N := 9) hx hb hg gb_8 tyX8 tyX8_ok nmX8 hown hK hP hD hS 0 rfl rfl 6 (by decide) (hg _ gm_fieldLink_RX8_27_ErrandGuild_Scopes_tryMarks_AI_) (fun _ h9 => h9) rfl hin rfl (by decide +kernel) rfl rfl (Nat.le_of_ble_eq_true rfl) dX8_init_49 (fun H locs hP hD hS => ?_)
  have hP : va_P (dC, dI) vwCl [(h0, .inr (8, [.ref q_1, .ref q_3, .ref q_5, .int 0, .ref q_7, .ref q_9, .ref q_11, .int 0, .int 0])), (q_1, .inl (k_2, 24, .inl (fun _ => 0))), (q_3, .inl (k_4, 24, .inl (fun _ => 0))), (q_5, .inl (k_6, 24, .inl (fun _ => 0))), (q_7, .inl (k_8, 24, .inl (fun _ => 0))), (q_9, .inl (k_10, 24, .inl (fun _ => 0))), (q_11, .inl (k_12, 24, .inl (fun _ => 0)))] H := hP
  have hD : va_D A [(h0, .inr (8, [.ref q_1, .ref q_3, .ref q_5, .int 0, .ref q_7, .ref q_9, .ref q_11, .int 0, .int 0])), (q_1, .inl (k_2, 24, .inl (fun _ => 0))), (q_3, .inl (k_4, 24, .inl (fun _ => 0))), (q_5, .inl (k_6, 24, .inl (fun _ => 0))), (q_7, .inl (k_8, 24, .inl (fun _ => 0))), (q_9, .inl (k_10, 24, .inl (fun _ => 0))), (q_11, .inl (k_12, 24, .inl (fun _ => 0)))] := hD
  have hP9 := hP.sub (ws' := [(h0, .inr (8, [.ref q_1, .ref q_3, .ref q_5, .int 0, .ref q_7, .ref q_9, .ref q_11, .int 0, .int 0])), (q_1, .inl (k_2, 24, .inl (fun _ => 0))), (q_3, .inl (k_4, 24, .inl (fun _ => 0))), (q_5, .inl (k_6, 24, .inl (fun _ => 0))), (q_7, .inl (k_8, 24, .inl (fun _ => 0))), (q_9, .inl (k_10, 24, .inl (fun _ => 0))), (q_11, .inl (k_12, 24, .inl (fun _ => 0)))]) [0, 1, 2, 3, 4, 5, 6] rfl
  have hD9 := hD.sub (ws' := [(h0, .inr (8, [.ref q_1, .ref q_3, .ref q_5, .int 0, .ref q_7, .ref q_9, .ref q_11, .int 0, .int 0])), (q_1, .inl (k_2, 24, .inl (fun _ => 0))), (q_3, .inl (k_4, 24, .inl (fun _ => 0))), (q_5, .inl (k_6, 24, .inl (fun _ => 0))), (q_7, .inl (k_8, 24, .inl (fun _ => 0))), (q_9, .inl (k_10, 24, .inl (fun _ => 0))), (q_11, .inl (k_12, 24, .inl (fun _ => 0)))]) [0, 1, 2, 3, 4, 5, 6] (by decide) rfl
  have hK9 := hK.sub (tys' := [(k_2, .int), (k_4, .int), (k_6, .int), (k_8, .int), (k_10, .int), (k_12, .int)]) [0, 1, 2, 3, 4, 5] rfl
  exact W.vret hx hb hr (fun t ht hW => ⟨⟨((fun k => ([q_1, q_3, q_5, q_7, q_9, q_11] : List Nat).getD k 0), (fun k => ([k_2, k_4, k_6, k_8, k_10, k_12] : List ClassId).getD k (dC 0)), (fun _ => (fun _ => 0)), (fun _ => (fun _ => none))), rfl, trivial, by rw [ht]; exact hP9, hD9, va_K.moved hW.alike hK9⟩, hS.F ht⟩) hS.2.2 dX8_init_52

set_option maxHeartbeats 4000000 in
set_option maxRecDepth 100000 in
theorem c_X7_init (l : Launch) (dC : Nat → ClassId) (dI : Nat → Nat → Nat) (h0 : Nat) (v1 : Int32) (sz : Nat)  : Met l yX7_init (.code yX7_init cX7_init 2 none :: gw) ({ frames := 2, cells := 15, slots := 213, locals := 41 }) (va_Pc [.ref h0, .int v1] (fun U => U.heap.size = sz ∧ va_P (dC, dI) vwCl [(h0, .inr (7, [.int 0, .int 0, .int 0, .int 0, .int 0, .int 0, .int 0, .int 0, .int 0, .int 0, .null, .null, .null, .null, .null]))] U.heap ∧ va_K (dC, dI) vwCl [] U ∧ va_D (fun _ => True) [(h0, .inr (7, [.int 0, .int 0, .int 0, .int 0, .int 0, .int 0, .int 0, .int 0, .int 0, .int 0, .null, .null, .null, .null, .null]))] ∧ nx U)) (va_Qv (fun (u : wS) => True) (fun u t => va_P (dC, dI) vwCl [(h0, .inr (7, [.int v1, .int 0, .int 0, .int 0, .int 0, .int 0, .int 0, .int 0, .int 0, .int 0, .ref (u.1 1), .ref (u.1 2), .ref (u.1 6), .ref (u.1 13), .ref (u.1 14)])), ((u.1 1), .inr (4, [.null, .null, .int 0, .int 0, .int 0, .null, .null, .null, .int 0])), ((u.1 2), .inr (6, [.ref (u.1 3), .ref (u.1 4), .ref (u.1 5)])), ((u.1 3), .inl ((u.2.1 3), 8, .inl (fun _ => 0))), ((u.1 4), .inl ((u.2.1 4), 8, .inl (fun _ => 0))), ((u.1 5), .inl ((u.2.1 5), 8, .inl (fun _ => 0))), ((u.1 6), .inr (8, [.ref (u.1 7), .ref (u.1 8), .ref (u.1 9), .int 0, .ref (u.1 10), .ref (u.1 11), .ref (u.1 12), .int 0, .int 0])), ((u.1 7), .inl ((u.2.1 7), 24, .inl (fun _ => 0))), ((u.1 8), .inl ((u.2.1 8), 24, .inl (fun _ => 0))), ((u.1 9), .inl ((u.2.1 9), 24, .inl (fun _ => 0))), ((u.1 10), .inl ((u.2.1 10), 24, .inl (fun _ => 0))), ((u.1 11), .inl ((u.2.1 11), 24, .inl (fun _ => 0))), ((u.1 12), .inl ((u.2.1 12), 24, .inl (fun _ => 0))), ((u.1 13), .inr (2, [.int 0, .int 0, .int 0, .int 0, .int 0])), ((u.1 14), .inr (0, [.int 1048576, .ref (u.1 15), .int 0])), ((u.1 15), .inl ((u.2.1 15), 16, .inl (fun _ => 0)))] t.heap ∧ va_D (va_A [(h0, .inr (7, [.int 0, .int 0, .int 0, .int 0, .int 0, .int 0, .int 0, .int 0, .int 0, .int 0, .null, .null, .null, .null, .null]))] sz) [(h0, .inr (7, [.int v1, .int 0, .int 0, .int 0, .int 0, .int 0, .int 0, .int 0, .int 0, .int 0, .ref (u.1 1), .ref (u.1 2), .ref (u.1 6), .ref (u.1 13), .ref (u.1 14)])), ((u.1 1), .inr (4, [.null, .null, .int 0, .int 0, .int 0, .null, .null, .null, .int 0])), ((u.1 2), .inr (6, [.ref (u.1 3), .ref (u.1 4), .ref (u.1 5)])), ((u.1 3), .inl ((u.2.1 3), 8, .inl (fun _ => 0))), ((u.1 4), .inl ((u.2.1 4), 8, .inl (fun _ => 0))), ((u.1 5), .inl ((u.2.1 5), 8, .inl (fun _ => 0))), ((u.1 6), .inr (8, [.ref (u.1 7), .ref (u.1 8), .ref (u.1 9), .int 0, .ref (u.1 10), .ref (u.1 11), .ref (u.1 12), .int 0, .int 0])), ((u.1 7), .inl ((u.2.1 7), 24, .inl (fun _ => 0))), ((u.1 8), .inl ((u.2.1 8), 24, .inl (fun _ => 0))), ((u.1 9), .inl ((u.2.1 9), 24, .inl (fun _ => 0))), ((u.1 10), .inl ((u.2.1 10), 24, .inl (fun _ => 0))), ((u.1 11), .inl ((u.2.1 11), 24, .inl (fun _ => 0))), ((u.1 12), .inl ((u.2.1 12), 24, .inl (fun _ => 0))), ((u.1 13), .inr (2, [.int 0, .int 0, .int 0, .int 0, .int 0])), ((u.1 14), .inr (0, [.int 1048576, .ref (u.1 15), .int 0])), ((u.1 15), .inl ((u.2.1 15), 16, .inl (fun _ => 0)))] ∧ va_K (dC, dI) vwCl [((u.2.1 3), .boolean), ((u.2.1 4), .int), ((u.2.1 5), .int), ((u.2.1 7), .int), ((u.2.1 8), .int), ((u.2.1 9), .int), ((u.2.1 10), .int), ((u.2.1 11), .int), ((u.2.1 12), .int), ((u.2.1 15), .int)] t) (va_A [(h0, .inr (7, [.int 0, .int 0, .int 0, .int 0, .int 0, .int 0, .int 0, .int 0, .int 0, .int 0, .null, .null, .null, .null, .null]))] sz)) 15 213 (va_A [(h0, .inr (7, [.int 0, .int 0, .int 0, .int 0, .int 0, .int 0, .int 0, .int 0, .int 0, .int 0, .null, .null, .null, .null, .null]))] sz) := by
  refine Met.ofW (cc := cX7_init) (maxL := 2) (ret := none) (by decide) rfl ?_
  intro p e s m args below meth c s₁ B hml hv
  obtain ⟨rfl, hsz, hP, hK, hD0, hN⟩ := hv
  have hx := B.exec
  have hb := B.bytes
  have hr := B.returns
  have hts := atoms_spec (ws := .code yX7_init cX7_init 2 none :: gw) B.pre
  have hg : ∀ w ∈ gw, w.before _ s = true := fun w h => hts w (List.mem_cons_of_mem _ h)
  have hown : s.vm.findClass RX7 = some m.cls := findClass_of_methodNamed B.named
  have hlocks := B.notSynchronized
  have hin : meth.name = "<init>" := (name_of_methodNamed B.named B.method).1
  subst hsz
  have hD := hD0.self (sz := s.heap.size)
  generalize hAe : va_A [(h0, .inr (7, [.int 0, .int 0, .int 0, .int 0, .int 0, .int 0, .int 0, .int 0, .int 0, .int 0, .null, .null, .null, .null, .null]))] s.heap.size = A at hD ⊢
  have hA : ∀ q : Nat, s.heap.size ≤ q → A q := fun q h => by rw [← hAe]; exact Or.inr h
  have hS : va_S A s.heap s.heap [] := va_S.rf
  have hP : va_P (dC, dI) vwCl [(h0, .inr (7, [.int 0, .int 0, .int 0, .int 0, .int 0, .int 0, .int 0, .int 0, .int 0, .int 0, .null, .null, .null, .null, .null]))] s.heap := hP
  have hl := lv_entry ([.ref h0, .int v1]) (n := 2) (Nat.le_of_ble_eq_true rfl)
  rw [lg_entry_eq]
  generalize (lg_sl ([.ref h0, .int v1]) ++ List.replicate (2 - (lg_sl ([.ref h0, .int v1])).length) Slot.unset).toArray = ls at hl ⊢
  have hl : lv_has ls 2 [(0, .ref h0), (1, .int v1)] := hl
  refine lv_aload_n hx hb dX7_init_0 rfl (lv_at hl 0 rfl) ?_
  refine W.objInit hx hb hown (hg _ gm_methodLink_RX7_3_objectInit) (hg _ gm_instanceMethod_objectInit) (hg _ gm_code_objectInit_oi_1_none) rfl (by rw [hml]; exact hl.1) rfl dX7_init_1 (Nat.le_of_ble_eq_true rfl) (Nat.le_of_ble_eq_true rfl) ?_
  refine W.eq (g2 := F0 m 4 ls []) rfl ?_
  refine lv_aload_n hx hb dX7_init_4 rfl (lv_at hl 0 rfl) ?_
  refine va_new (ci := 4) (fs := [.null, .null, .int 0, .int 0, .int 0, .null, .null, .null, .int 0]) (C := RX4) (T := TX4) (N := 9) hx hb hg gb_4 tyX4 tyX4_ok hown (hg _ gm_classLink_RX7_9_RX4) (hg _ gm_instantiable_RX4_9) (hg _ gm_initialized_RX4) hK hP hD hS hA rfl df_X4 (Nat.le_of_ble_eq_true rfl) (Nat.le_of_ble_eq_true rfl) dX7_init_5 (fun q_1 H hP hD hS => ?_)
  have hP : va_P (dC, dI) vwCl [(h0, .inr (7, [.int 0, .int 0, .int 0, .int 0, .int 0, .int 0, .int 0, .int 0, .int 0, .int 0, .null, .null, .null, .null, .null])), (q_1, .inr (4, [.null, .null, .int 0, .int 0, .int 0, .null, .null, .null, .int 0]))] H := hP
  have hD : va_D A [(h0, .inr (7, [.int 0, .int 0, .int 0, .int 0, .int 0, .int 0, .int 0, .int 0, .int 0, .int 0, .null, .null, .null, .null, .null])), (q_1, .inr (4, [.null, .null, .int 0, .int 0, .int 0, .null, .null, .null, .int 0]))] := hD
  refine W.widen (k := 1) (n := 9) (Nat.le_of_ble_eq_true rfl) (Nat.le_of_ble_eq_true rfl) ?_
  refine lv_dup hx hb dX7_init_8 rfl ?_
  have hPc := hP.sub (ws' := [(q_1, .inr (4, [.null, .null, .int 0, .int 0, .int 0, .null, .null, .null, .int 0]))]) [1] rfl
  have hDc := hD.sub (ws' := [(q_1, .inr (4, [.null, .null, .int 0, .int 0, .int 0, .null, .null, .null, .int 0]))]) [1] (by decide) rfl
  have hKc := hK.sub (tys' := []) [] rfl
  have hFc := va_free (wc := [(q_1, .inr (4, [.null, .null, .int 0, .int 0, .int 0, .null, .null, .null, .int 0]))]) hD hS hA [1] rfl
  refine va_callv (va_runIN (As := []) (rest := [.ref q_1, .ref h0]) ⟨hx, hb, hml, hown, hg⟩ (c_X4_init l dC dI q_1 H.size ) (⟨va_cnB 0 hg (gw_c gm_code_yX4_init_cX4_init_1_none) rfl rfl rfl (nx_RX7_11 hN) (hg _ gm_initialized_RX4) (by decide +kernel) ⟨Nat.le_of_ble_eq_true rfl, Nat.le_of_ble_eq_true rfl⟩, rfl, hg _ gm_instanceMethod_yX4_init⟩) ⟨fun a U g mk q => by obtain ⟨q0, q1, qP, qK, qD, qN⟩ := q; exact ⟨q0, q1, qP, va_K.moved (u := U) (U := U.calling g mk a) (Vm.Alike.refl U.vm) qK, qD, nx_same (u := U) (U := U.calling g mk a) rfl qN⟩, fun U hU hW => ⟨rfl, by rw [hU], by rw [hU]; exact hPc, va_K.moved hW.alike hKc, hDc.weaken (fun _ _ _ _ => trivial), nx_warm hW hN⟩⟩ rfl rfl hl.1 rfl (lv_room (Nat.le_of_ble_eq_true rfl)) dX7_init_9 ⟨Nat.le_of_ble_eq_true rfl, Nat.le_of_ble_eq_true rfl⟩) hS (fun q _ h => hFc q h) hFc (fun u_3 t H1 locs ht hvm hw hB hz1 hk1 hS => ?_)
  obtain ⟨hP1, hD1⟩ := hB
  rw [ht] at hP1
  obtain ⟨hP, hD⟩ := va_join (wr := [(h0, .inr (7, [.int 0, .int 0, .int 0, .int 0, .int 0, .int 0, .int 0, .int 0, .int 0, .int 0, .null, .null, .null, .null, .null]))]) (w1 := [(q_1, .inr (4, [.null, .null, .int 0, .int 0, .int 0, .null, .null, .null, .int 0]))]) hP hD [1] [0] rfl rfl (by decide) (by decide +kernel) hk1 hFc hP1 hD1
  generalize H1 = H at hP hS ⊢
  have hP : va_P (dC, dI) vwCl [(h0, .inr (7, [.int 0, .int 0, .int 0, .int 0, .int 0, .int 0, .int 0, .int 0, .int 0, .int 0, .null, .null, .null, .null, .null])), (q_1, .inr (4, [.null, .null, .int 0, .int 0, .int 0, .null, .null, .null, .int 0]))] H := hP
  have hD : va_D A [(h0, .inr (7, [.int 0, .int 0, .int 0, .int 0, .int 0, .int 0, .int 0, .int 0, .int 0, .int 0, .null, .null, .null, .null, .null])), (q_1, .inr (4, [.null, .null, .int 0, .int 0, .int 0, .null, .null, .null, .int 0]))] := hD
  refine W.widen (k := 1) (n := 9) (Nat.le_of_ble_eq_true rfl) (Nat.le_of_ble_eq_true rfl) ?_
  refine va_putF (D := (dC, dI)) (ci := 7) (v := .ref q_1) (ty := .object "ErrandGuild$Kin") (C := RX7) (T := TX7) (N := 15) hx hb hg gb_7 tyX7 tyX7_ok nmX7 hown hK hP hD hS 0 rfl rfl 10 (by decide) (hg _ gm_fieldLink_RX7_12_ErrandGuild_Run_kin_LErrandGuild_Kin_) (fun _ h9 => h9) rfl hin rfl (by decide +kernel) rfl rfl (Nat.le_of_ble_eq_true rfl) dX7_init_12 (fun H locs hP hD hS => ?_)
  have hP : va_P (dC, dI) vwCl [(h0, .inr (7, [.int 0, .int 0, .int 0, .int 0, .int 0, .int 0, .int 0, .int 0, .int 0, .int 0, .ref q_1, .null, .null, .null, .null])), (q_1, .inr (4, [.null, .null, .int 0, .int 0, .int 0, .null, .null, .null, .int 0]))] H := hP
  have hD : va_D A [(h0, .inr (7, [.int 0, .int 0, .int 0, .int 0, .int 0, .int 0, .int 0, .int 0, .int 0, .int 0, .ref q_1, .null, .null, .null, .null])), (q_1, .inr (4, [.null, .null, .int 0, .int 0, .int 0, .null, .null, .null, .int 0]))] := hD
  refine lv_aload_n hx hb dX7_init_15 rfl (lv_at hl 0 rfl) ?_
  refine va_new (ci := 6) (fs := [.null, .null, .null]) (C := RX6) (T := TX6) (N := 3) hx hb hg gb_6 tyX6 tyX6_ok hown (hg _ gm_classLink_RX7_18_RX6) (hg _ gm_instantiable_RX6_3) (hg _ gm_initialized_RX6) hK hP hD hS hA rfl df_X6 (Nat.le_of_ble_eq_true rfl) (Nat.le_of_ble_eq_true rfl) dX7_init_16 (fun q_4 H hP hD hS => ?_)
  have hP : va_P (dC, dI) vwCl [(h0, .inr (7, [.int 0, .int 0, .int 0, .int 0, .int 0, .int 0, .int 0, .int 0, .int 0, .int 0, .ref q_1, .null, .null, .null, .null])), (q_1, .inr (4, [.null, .null, .int 0, .int 0, .int 0, .null, .null, .null, .int 0])), (q_4, .inr (6, [.null, .null, .null]))] H := hP
  have hD : va_D A [(h0, .inr (7, [.int 0, .int 0, .int 0, .int 0, .int 0, .int 0, .int 0, .int 0, .int 0, .int 0, .ref q_1, .null, .null, .null, .null])), (q_1, .inr (4, [.null, .null, .int 0, .int 0, .int 0, .null, .null, .null, .int 0])), (q_4, .inr (6, [.null, .null, .null]))] := hD
  refine W.widen (k := 2) (n := 12) (Nat.le_of_ble_eq_true rfl) (Nat.le_of_ble_eq_true rfl) ?_
  refine lv_dup hx hb dX7_init_19 rfl ?_
  have hPc := hP.sub (ws' := [(q_4, .inr (6, [.null, .null, .null]))]) [2] rfl
  have hDc := hD.sub (ws' := [(q_4, .inr (6, [.null, .null, .null]))]) [2] (by decide) rfl
  have hKc := hK.sub (tys' := []) [] rfl
  have hFc := va_free (wc := [(q_4, .inr (6, [.null, .null, .null]))]) hD hS hA [2] rfl
  refine va_callv (va_runIN (As := []) (rest := [.ref q_4, .ref h0]) ⟨hx, hb, hml, hown, hg⟩ (c_X6_init l dC dI q_4 H.size ) (⟨va_cnB 0 hg (gw_c gm_code_yX6_init_cX6_init_1_none) rfl rfl rfl (nx_RX7_20 hN) (hg _ gm_initialized_RX6) (by decide +kernel) ⟨Nat.le_of_ble_eq_true rfl, Nat.le_of_ble_eq_true rfl⟩, rfl, hg _ gm_instanceMethod_yX6_init⟩) ⟨fun a U g mk q => by obtain ⟨q0, q1, qP, qK, qD, qN⟩ := q; exact ⟨q0, q1, qP, va_K.moved (u := U) (U := U.calling g mk a) (Vm.Alike.refl U.vm) qK, qD, nx_same (u := U) (U := U.calling g mk a) rfl qN⟩, fun U hU hW => ⟨rfl, by rw [hU], by rw [hU]; exact hPc, va_K.moved hW.alike hKc, hDc.weaken (fun _ _ _ _ => trivial), nx_warm hW hN⟩⟩ rfl rfl hl.1 rfl (lv_room (Nat.le_of_ble_eq_true rfl)) dX7_init_20 ⟨Nat.le_of_ble_eq_true rfl, Nat.le_of_ble_eq_true rfl⟩) hS (fun q _ h => hFc q h) hFc (fun u_6 t H1 locs ht hvm hw hB hz1 hk1 hS => ?_)
  obtain ⟨ad_7, ac_8, af_9, ag_10⟩ := u_6
  obtain ⟨hP1, hD1, hK1⟩ := hB
  rw [ht] at hP1
  have hK1 := va_K.moved hvm.symm hK1
  obtain ⟨hP, hD⟩ := va_join (wr := [(h0, .inr (7, [.int 0, .int 0, .int 0, .int 0, .int 0, .int 0, .int 0, .int 0, .int 0, .int 0, .ref q_1, .null, .null, .null, .null])), (q_1, .inr (4, [.null, .null, .int 0, .int 0, .int 0, .null, .null, .null, .int 0]))]) (w1 := [(q_4, .inr (6, [.ref (ad_7 0), .ref (ad_7 1), .ref (ad_7 2)])), ((ad_7 0), .inl ((ac_8 0), 8, .inl (fun _ => 0))), ((ad_7 1), .inl ((ac_8 1), 8, .inl (fun _ => 0))), ((ad_7 2), .inl ((ac_8 2), 8, .inl (fun _ => 0)))]) hP hD [2] [0, 1] rfl rfl (by decide) (by decide +kernel) hk1 hFc hP1 hD1
  have hK := hK.app hK1
  generalize H1 = H at hP hS ⊢
  have hK : va_K (dC, dI) vwCl [((ac_8 0), .boolean), ((ac_8 1), .int), ((ac_8 2), .int)] s := hK
  have hP : va_P (dC, dI) vwCl [(h0, .inr (7, [.int 0, .int 0, .int 0, .int 0, .int 0, .int 0, .int 0, .int 0, .int 0, .int 0, .ref q_1, .null, .null, .null, .null])), (q_1, .inr (4, [.null, .null, .int 0, .int 0, .int 0, .null, .null, .null, .int 0])), (q_4, .inr (6, [.ref (ad_7 0), .ref (ad_7 1), .ref (ad_7 2)])), ((ad_7 0), .inl ((ac_8 0), 8, .inl (fun _ => 0))), ((ad_7 1), .inl ((ac_8 1), 8, .inl (fun _ => 0))), ((ad_7 2), .inl ((ac_8 2), 8, .inl (fun _ => 0)))] H := hP
  have hD : va_D A [(h0, .inr (7, [.int 0, .int 0, .int 0, .int 0, .int 0, .int 0, .int 0, .int 0, .int 0, .int 0, .ref q_1, .null, .null, .null, .null])), (q_1, .inr (4, [.null, .null, .int 0, .int 0, .int 0, .null, .null, .null, .int 0])), (q_4, .inr (6, [.ref (ad_7 0), .ref (ad_7 1), .ref (ad_7 2)])), ((ad_7 0), .inl ((ac_8 0), 8, .inl (fun _ => 0))), ((ad_7 1), .inl ((ac_8 1), 8, .inl (fun _ => 0))), ((ad_7 2), .inl ((ac_8 2), 8, .inl (fun _ => 0)))] := hD
  refine W.widen (k := 5) (n := 36) (Nat.le_of_ble_eq_true rfl) (Nat.le_of_ble_eq_true rfl) ?_
  refine va_putF (D := (dC, dI)) (ci := 7) (v := .ref q_4) (ty := .object "ErrandGuild$Memory") (C := RX7) (T := TX7) (N := 15) hx hb hg gb_7 tyX7 tyX7_ok nmX7 hown hK hP hD hS 0 rfl rfl 11 (by decide) (hg _ gm_fieldLink_RX7_21_ErrandGuild_Run_memory_LErrandGuild_Memory_) (fun _ h9 => h9) rfl hin rfl (by decide +kernel) rfl rfl (Nat.le_of_ble_eq_true rfl) dX7_init_23 (fun H locs hP hD hS => ?_)
  have hP : va_P (dC, dI) vwCl [(h0, .inr (7, [.int 0, .int 0, .int 0, .int 0, .int 0, .int 0, .int 0, .int 0, .int 0, .int 0, .ref q_1, .ref q_4, .null, .null, .null])), (q_1, .inr (4, [.null, .null, .int 0, .int 0, .int 0, .null, .null, .null, .int 0])), (q_4, .inr (6, [.ref (ad_7 0), .ref (ad_7 1), .ref (ad_7 2)])), ((ad_7 0), .inl ((ac_8 0), 8, .inl (fun _ => 0))), ((ad_7 1), .inl ((ac_8 1), 8, .inl (fun _ => 0))), ((ad_7 2), .inl ((ac_8 2), 8, .inl (fun _ => 0)))] H := hP
  have hD : va_D A [(h0, .inr (7, [.int 0, .int 0, .int 0, .int 0, .int 0, .int 0, .int 0, .int 0, .int 0, .int 0, .ref q_1, .ref q_4, .null, .null, .null])), (q_1, .inr (4, [.null, .null, .int 0, .int 0, .int 0, .null, .null, .null, .int 0])), (q_4, .inr (6, [.ref (ad_7 0), .ref (ad_7 1), .ref (ad_7 2)])), ((ad_7 0), .inl ((ac_8 0), 8, .inl (fun _ => 0))), ((ad_7 1), .inl ((ac_8 1), 8, .inl (fun _ => 0))), ((ad_7 2), .inl ((ac_8 2), 8, .inl (fun _ => 0)))] := hD
  refine lv_aload_n hx hb dX7_init_26 rfl (lv_at hl 0 rfl) ?_
  refine va_new (ci := 8) (fs := [.null, .null, .null, .int 0, .null, .null, .null, .int 0, .int 0]) (C := RX8) (T := TX8) (N := 9) hx hb hg gb_8 tyX8 tyX8_ok hown (hg _ gm_classLink_RX7_25_RX8) (hg _ gm_instantiable_RX8_9) (hg _ gm_initialized_RX8) hK hP hD hS hA rfl df_X8 (Nat.le_of_ble_eq_true rfl) (Nat.le_of_ble_eq_true rfl) dX7_init_27 (fun q_11 H hP hD hS => ?_)
  have hP : va_P (dC, dI) vwCl [(h0, .inr (7, [.int 0, .int 0, .int 0, .int 0, .int 0, .int 0, .int 0, .int 0, .int 0, .int 0, .ref q_1, .ref q_4, .null, .null, .null])), (q_1, .inr (4, [.null, .null, .int 0, .int 0, .int 0, .null, .null, .null, .int 0])), (q_4, .inr (6, [.ref (ad_7 0), .ref (ad_7 1), .ref (ad_7 2)])), ((ad_7 0), .inl ((ac_8 0), 8, .inl (fun _ => 0))), ((ad_7 1), .inl ((ac_8 1), 8, .inl (fun _ => 0))), ((ad_7 2), .inl ((ac_8 2), 8, .inl (fun _ => 0))), (q_11, .inr (8, [.null, .null, .null, .int 0, .null, .null, .null, .int 0, .int 0]))] H := hP
  have hD : va_D A [(h0, .inr (7, [.int 0, .int 0, .int 0, .int 0, .int 0, .int 0, .int 0, .int 0, .int 0, .int 0, .ref q_1, .ref q_4, .null, .null, .null])), (q_1, .inr (4, [.null, .null, .int 0, .int 0, .int 0, .null, .null, .null, .int 0])), (q_4, .inr (6, [.ref (ad_7 0), .ref (ad_7 1), .ref (ad_7 2)])), ((ad_7 0), .inl ((ac_8 0), 8, .inl (fun _ => 0))), ((ad_7 1), .inl ((ac_8 1), 8, .inl (fun _ => 0))), ((ad_7 2), .inl ((ac_8 2), 8, .inl (fun _ => 0))), (q_11, .inr (8, [.null, .null, .null, .int 0, .null, .null, .null, .int 0, .int 0]))] := hD
  refine W.widen (k := 6) (n := 45) (Nat.le_of_ble_eq_true rfl) (Nat.le_of_ble_eq_true rfl) ?_
  refine lv_dup hx hb dX7_init_30 rfl ?_
  have hPc := hP.sub (ws' := [(q_11, .inr (8, [.null, .null, .null, .int 0, .null, .null, .null, .int 0, .int 0]))]) [6] rfl
  have hDc := hD.sub (ws' := [(q_11, .inr (8, [.null, .null, .null, .int 0, .null, .null, .null, .int 0, .int 0]))]) [6] (by decide) rfl
  have hKc := hK.sub (tys' := []) [] rfl
  have hFc := va_free (wc := [(q_11, .inr (8, [.null, .null, .null, .int 0, .null, .null, .null, .int 0, .int 0]))]) hD hS hA [6] rfl
  refine va_callv (va_runIN (As := []) (rest := [.ref q_11, .ref h0]) ⟨hx, hb, hml, hown, hg⟩ (c_X8_init l dC dI q_11 H.size ) (⟨va_cnB 0 hg (gw_c gm_code_yX8_init_cX8_init_1_none) rfl rfl rfl (nx_RX7_27 hN) (hg _ gm_initialized_RX8) (by decide +kernel) ⟨Nat.le_of_ble_eq_true rfl, Nat.le_of_ble_eq_true rfl⟩, rfl, hg _ gm_instanceMethod_yX8_init⟩) ⟨fun a U g mk q => by obtain ⟨q0, q1, qP, qK, qD, qN⟩ := q; exact ⟨q0, q1, qP, va_K.moved (u := U) (U := U.calling g mk a) (Vm.Alike.refl U.vm) qK, qD, nx_same (u := U) (U := U.calling g mk a) rfl qN⟩, fun U hU hW => ⟨rfl, by rw [hU], by rw [hU]; exact hPc, va_K.moved hW.alike hKc, hDc.weaken (fun _ _ _ _ => trivial), nx_warm hW hN⟩⟩ rfl rfl hl.1 rfl (lv_room (Nat.le_of_ble_eq_true rfl)) dX7_init_31 ⟨Nat.le_of_ble_eq_true rfl, Nat.le_of_ble_eq_true rfl⟩) hS (fun q _ h => hFc q h) hFc (fun u_13 t H1 locs ht hvm hw hB hz1 hk1 hS => ?_)
  obtain ⟨ad_14, ac_15, af_16, ag_17⟩ := u_13
  obtain ⟨hP1, hD1, hK1⟩ := hB
  rw [ht] at hP1
  have hK1 := va_K.moved hvm.symm hK1
  obtain ⟨hP, hD⟩ := va_join (wr := [(h0, .inr (7, [.int 0, .int 0, .int 0, .int 0, .int 0, .int 0, .int 0, .int 0, .int 0, .int 0, .ref q_1, .ref q_4, .null, .null, .null])), (q_1, .inr (4, [.null, .null, .int 0, .int 0, .int 0, .null, .null, .null, .int 0])), (q_4, .inr (6, [.ref (ad_7 0), .ref (ad_7 1), .ref (ad_7 2)])), ((ad_7 0), .inl ((ac_8 0), 8, .inl (fun _ => 0))), ((ad_7 1), .inl ((ac_8 1), 8, .inl (fun _ => 0))), ((ad_7 2), .inl ((ac_8 2), 8, .inl (fun _ => 0)))]) (w1 := [(q_11, .inr (8, [.ref (ad_14 0), .ref (ad_14 1), .ref (ad_14 2), .int 0, .ref (ad_14 3), .ref (ad_14 4), .ref (ad_14 5), .int 0, .int 0])), ((ad_14 0), .inl ((ac_15 0), 24, .inl (fun _ => 0))), ((ad_14 1), .inl ((ac_15 1), 24, .inl (fun _ => 0))), ((ad_14 2), .inl ((ac_15 2), 24, .inl (fun _ => 0))), ((ad_14 3), .inl ((ac_15 3), 24, .inl (fun _ => 0))), ((ad_14 4), .inl ((ac_15 4), 24, .inl (fun _ => 0))), ((ad_14 5), .inl ((ac_15 5), 24, .inl (fun _ => 0)))]) hP hD [6] [0, 1, 2, 3, 4, 5] rfl rfl (by decide) (by decide +kernel) hk1 hFc hP1 hD1
  have hK := hK.app hK1
  generalize H1 = H at hP hS ⊢
  have hK : va_K (dC, dI) vwCl [((ac_8 0), .boolean), ((ac_8 1), .int), ((ac_8 2), .int), ((ac_15 0), .int), ((ac_15 1), .int), ((ac_15 2), .int), ((ac_15 3), .int), ((ac_15 4), .int), ((ac_15 5), .int)] s := hK
  have hP : va_P (dC, dI) vwCl [(h0, .inr (7, [.int 0, .int 0, .int 0, .int 0, .int 0, .int 0, .int 0, .int 0, .int 0, .int 0, .ref q_1, .ref q_4, .null, .null, .null])), (q_1, .inr (4, [.null, .null, .int 0, .int 0, .int 0, .null, .null, .null, .int 0])), (q_4, .inr (6, [.ref (ad_7 0), .ref (ad_7 1), .ref (ad_7 2)])), ((ad_7 0), .inl ((ac_8 0), 8, .inl (fun _ => 0))), ((ad_7 1), .inl ((ac_8 1), 8, .inl (fun _ => 0))), ((ad_7 2), .inl ((ac_8 2), 8, .inl (fun _ => 0))), (q_11, .inr (8, [.ref (ad_14 0), .ref (ad_14 1), .ref (ad_14 2), .int 0, .ref (ad_14 3), .ref (ad_14 4), .ref (ad_14 5), .int 0, .int 0])), ((ad_14 0), .inl ((ac_15 0), 24, .inl (fun _ => 0))), ((ad_14 1), .inl ((ac_15 1), 24, .inl (fun _ => 0))), ((ad_14 2), .inl ((ac_15 2), 24, .inl (fun _ => 0))), ((ad_14 3), .inl ((ac_15 3), 24, .inl (fun _ => 0))), ((ad_14 4), .inl ((ac_15 4), 24, .inl (fun _ => 0))), ((ad_14 5), .inl ((ac_15 5), 24, .inl (fun _ => 0)))] H := hP
  have hD : va_D A [(h0, .inr (7, [.int 0, .int 0, .int 0, .int 0, .int 0, .int 0, .int 0, .int 0, .int 0, .int 0, .ref q_1, .ref q_4, .null, .null, .null])), (q_1, .inr (4, [.null, .null, .int 0, .int 0, .int 0, .null, .null, .null, .int 0])), (q_4, .inr (6, [.ref (ad_7 0), .ref (ad_7 1), .ref (ad_7 2)])), ((ad_7 0), .inl ((ac_8 0), 8, .inl (fun _ => 0))), ((ad_7 1), .inl ((ac_8 1), 8, .inl (fun _ => 0))), ((ad_7 2), .inl ((ac_8 2), 8, .inl (fun _ => 0))), (q_11, .inr (8, [.ref (ad_14 0), .ref (ad_14 1), .ref (ad_14 2), .int 0, .ref (ad_14 3), .ref (ad_14 4), .ref (ad_14 5), .int 0, .int 0])), ((ad_14 0), .inl ((ac_15 0), 24, .inl (fun _ => 0))), ((ad_14 1), .inl ((ac_15 1), 24, .inl (fun _ => 0))), ((ad_14 2), .inl ((ac_15 2), 24, .inl (fun _ => 0))), ((ad_14 3), .inl ((ac_15 3), 24, .inl (fun _ => 0))), ((ad_14 4), .inl ((ac_15 4), 24, .inl (fun _ => 0))), ((ad_14 5), .inl ((ac_15 5), 24, .inl (fun _ => 0)))] := hD
  refine W.widen (k := 12) (n := 189) (Nat.le_of_ble_eq_true rfl) (Nat.le_of_ble_eq_true rfl) ?_
  refine va_putF (D := (dC, dI)) (ci := 7) (v := .ref q_11) (ty := .object "ErrandGuild$Scopes") (C := RX7) (T := TX7) (N := 15) hx hb hg gb_7 tyX7 tyX7_ok nmX7 hown hK hP hD hS 0 rfl rfl 12 (by decide) (hg _ gm_fieldLink_RX7_28_ErrandGuild_Run_scopes_LErrandGuild_Scopes_) (fun _ h9 => h9) rfl hin rfl (by decide +kernel) rfl rfl (Nat.le_of_ble_eq_true rfl) dX7_init_34 (fun H locs hP hD hS => ?_)
  have hP : va_P (dC, dI) vwCl [(h0, .inr (7, [.int 0, .int 0, .int 0, .int 0, .int 0, .int 0, .int 0, .int 0, .int 0, .int 0, .ref q_1, .ref q_4, .ref q_11, .null, .null])), (q_1, .inr (4, [.null, .null, .int 0, .int 0, .int 0, .null, .null, .null, .int 0])), (q_4, .inr (6, [.ref (ad_7 0), .ref (ad_7 1), .ref (ad_7 2)])), ((ad_7 0), .inl ((ac_8 0), 8, .inl (fun _ => 0))), ((ad_7 1), .inl ((ac_8 1), 8, .inl (fun _ => 0))), ((ad_7 2), .inl ((ac_8 2), 8, .inl (fun _ => 0))), (q_11, .inr (8, [.ref (ad_14 0), .ref (ad_14 1), .ref (ad_14 2), .int 0, .ref (ad_14 3), .ref (ad_14 4), .ref (ad_14 5), .int 0, .int 0])), ((ad_14 0), .inl ((ac_15 0), 24, .inl (fun _ => 0))), ((ad_14 1), .inl ((ac_15 1), 24, .inl (fun _ => 0))), ((ad_14 2), .inl ((ac_15 2), 24, .inl (fun _ => 0))), ((ad_14 3), .inl ((ac_15 3), 24, .inl (fun _ => 0))), ((ad_14 4), .inl ((ac_15 4), 24, .inl (fun _ => 0))), ((ad_14 5), .inl ((ac_15 5), 24, .inl (fun _ => 0)))] H := hP
  have hD : va_D A [(h0, .inr (7, [.int 0, .int 0, .int 0, .int 0, .int 0, .int 0, .int 0, .int 0, .int 0, .int 0, .ref q_1, .ref q_4, .ref q_11, .null, .null])), (q_1, .inr (4, [.null, .null, .int 0, .int 0, .int 0, .null, .null, .null, .int 0])), (q_4, .inr (6, [.ref (ad_7 0), .ref (ad_7 1), .ref (ad_7 2)])), ((ad_7 0), .inl ((ac_8 0), 8, .inl (fun _ => 0))), ((ad_7 1), .inl ((ac_8 1), 8, .inl (fun _ => 0))), ((ad_7 2), .inl ((ac_8 2), 8, .inl (fun _ => 0))), (q_11, .inr (8, [.ref (ad_14 0), .ref (ad_14 1), .ref (ad_14 2), .int 0, .ref (ad_14 3), .ref (ad_14 4), .ref (ad_14 5), .int 0, .int 0])), ((ad_14 0), .inl ((ac_15 0), 24, .inl (fun _ => 0))), ((ad_14 1), .inl ((ac_15 1), 24, .inl (fun _ => 0))), ((ad_14 2), .inl ((ac_15 2), 24, .inl (fun _ => 0))), ((ad_14 3), .inl ((ac_15 3), 24, .inl (fun _ => 0))), ((ad_14 4), .inl ((ac_15 4), 24, .inl (fun _ => 0))), ((ad_14 5), .inl ((ac_15 5), 24, .inl (fun _ => 0)))] := hD
  refine lv_aload_n hx hb dX7_init_37 rfl (lv_at hl 0 rfl) ?_
  refine va_new (ci := 2) (fs := [.int 0, .int 0, .int 0, .int 0, .int 0]) (C := RX2) (T := TX2) (N := 5) hx hb hg gb_2 tyX2 tyX2_ok hown (hg _ gm_classLink_RX7_32_RX2) (hg _ gm_instantiable_RX2_5) (hg _ gm_initialized_RX2) hK hP hD hS hA rfl df_X2 (Nat.le_of_ble_eq_true rfl) (Nat.le_of_ble_eq_true rfl) dX7_init_38 (fun q_18 H hP hD hS => ?_)
  have hP : va_P (dC, dI) vwCl [(h0, .inr (7, [.int 0, .int 0, .int 0, .int 0, .int 0, .int 0, .int 0, .int 0, .int 0, .int 0, .ref q_1, .ref q_4, .ref q_11, .null, .null])), (q_1, .inr (4, [.null, .null, .int 0, .int 0, .int 0, .null, .null, .null, .int 0])), (q_4, .inr (6, [.ref (ad_7 0), .ref (ad_7 1), .ref (ad_7 2)])), ((ad_7 0), .inl ((ac_8 0), 8, .inl (fun _ => 0))), ((ad_7 1), .inl ((ac_8 1), 8, .inl (fun _ => 0))), ((ad_7 2), .inl ((ac_8 2), 8, .inl (fun _ => 0))), (q_11, .inr (8, [.ref (ad_14 0), .ref (ad_14 1), .ref (ad_14 2), .int 0, .ref (ad_14 3), .ref (ad_14 4), .ref (ad_14 5), .int 0, .int 0])), ((ad_14 0), .inl ((ac_15 0), 24, .inl (fun _ => 0))), ((ad_14 1), .inl ((ac_15 1), 24, .inl (fun _ => 0))), ((ad_14 2), .inl ((ac_15 2), 24, .inl (fun _ => 0))), ((ad_14 3), .inl ((ac_15 3), 24, .inl (fun _ => 0))), ((ad_14 4), .inl ((ac_15 4), 24, .inl (fun _ => 0))), ((ad_14 5), .inl ((ac_15 5), 24, .inl (fun _ => 0))), (q_18, .inr (2, [.int 0, .int 0, .int 0, .int 0, .int 0]))] H := hP
  have hD : va_D A [(h0, .inr (7, [.int 0, .int 0, .int 0, .int 0, .int 0, .int 0, .int 0, .int 0, .int 0, .int 0, .ref q_1, .ref q_4, .ref q_11, .null, .null])), (q_1, .inr (4, [.null, .null, .int 0, .int 0, .int 0, .null, .null, .null, .int 0])), (q_4, .inr (6, [.ref (ad_7 0), .ref (ad_7 1), .ref (ad_7 2)])), ((ad_7 0), .inl ((ac_8 0), 8, .inl (fun _ => 0))), ((ad_7 1), .inl ((ac_8 1), 8, .inl (fun _ => 0))), ((ad_7 2), .inl ((ac_8 2), 8, .inl (fun _ => 0))), (q_11, .inr (8, [.ref (ad_14 0), .ref (ad_14 1), .ref (ad_14 2), .int 0, .ref (ad_14 3), .ref (ad_14 4), .ref (ad_14 5), .int 0, .int 0])), ((ad_14 0), .inl ((ac_15 0), 24, .inl (fun _ => 0))), ((ad_14 1), .inl ((ac_15 1), 24, .inl (fun _ => 0))), ((ad_14 2), .inl ((ac_15 2), 24, .inl (fun _ => 0))), ((ad_14 3), .inl ((ac_15 3), 24, .inl (fun _ => 0))), ((ad_14 4), .inl ((ac_15 4), 24, .inl (fun _ => 0))), ((ad_14 5), .inl ((ac_15 5), 24, .inl (fun _ => 0))), (q_18, .inr (2, [.int 0, .int 0, .int 0, .int 0, .int 0]))] := hD
  refine W.widen (k := 13) (n := 194) (Nat.le_of_ble_eq_true rfl) (Nat.le_of_ble_eq_true rfl) ?_
  refine lv_dup hx hb dX7_init_41 rfl ?_
  have hPc := hP.sub (ws' := [(q_18, .inr (2, [.int 0, .int 0, .int 0, .int 0, .int 0]))]) [13] rfl
  have hDc := hD.sub (ws' := [(q_18, .inr (2, [.int 0, .int 0, .int 0, .int 0, .int 0]))]) [13] (by decide) rfl
  have hKc := hK.sub (tys' := []) [] rfl
  have hFc := va_free (wc := [(q_18, .inr (2, [.int 0, .int 0, .int 0, .int 0, .int 0]))]) hD hS hA [13] rfl
  refine va_callv (va_runIN (As := []) (rest := [.ref q_18, .ref h0]) ⟨hx, hb, hml, hown, hg⟩ (c_X2_init l dC dI q_18 H.size ) (⟨va_cnB 0 hg (gw_c gm_code_yX2_init_cX2_init_1_none) rfl rfl rfl (nx_RX7_34 hN) (hg _ gm_initialized_RX2) (by decide +kernel) ⟨Nat.le_of_ble_eq_true rfl, Nat.le_of_ble_eq_true rfl⟩, rfl, hg _ gm_instanceMethod_yX2_init⟩) ⟨fun a U g mk q => by obtain ⟨q0, q1, qP, qK, qD, qN⟩ := q; exact ⟨q0, q1, qP, va_K.moved (u := U) (U := U.calling g mk a) (Vm.Alike.refl U.vm) qK, qD, nx_same (u := U) (U := U.calling g mk a) rfl qN⟩, fun U hU hW => ⟨rfl, by rw [hU], by rw [hU]; exact hPc, va_K.moved hW.alike hKc, hDc.weaken (fun _ _ _ _ => trivial), nx_warm hW hN⟩⟩ rfl rfl hl.1 rfl (lv_room (Nat.le_of_ble_eq_true rfl)) dX7_init_42 ⟨Nat.le_of_ble_eq_true rfl, Nat.le_of_ble_eq_true rfl⟩) hS (fun q _ h => hFc q h) hFc (fun u_20 t H1 locs ht hvm hw hB hz1 hk1 hS => ?_)
  obtain ⟨hP1, hD1⟩ := hB
  rw [ht] at hP1
  obtain ⟨hP, hD⟩ := va_join (wr := [(h0, .inr (7, [.int 0, .int 0, .int 0, .int 0, .int 0, .int 0, .int 0, .int 0, .int 0, .int 0, .ref q_1, .ref q_4, .ref q_11, .null, .null])), (q_1, .inr (4, [.null, .null, .int 0, .int 0, .int 0, .null, .null, .null, .int 0])), (q_4, .inr (6, [.ref (ad_7 0), .ref (ad_7 1), .ref (ad_7 2)])), ((ad_7 0), .inl ((ac_8 0), 8, .inl (fun _ => 0))), ((ad_7 1), .inl ((ac_8 1), 8, .inl (fun _ => 0))), ((ad_7 2), .inl ((ac_8 2), 8, .inl (fun _ => 0))), (q_11, .inr (8, [.ref (ad_14 0), .ref (ad_14 1), .ref (ad_14 2), .int 0, .ref (ad_14 3), .ref (ad_14 4), .ref (ad_14 5), .int 0, .int 0])), ((ad_14 0), .inl ((ac_15 0), 24, .inl (fun _ => 0))), ((ad_14 1), .inl ((ac_15 1), 24, .inl (fun _ => 0))), ((ad_14 2), .inl ((ac_15 2), 24, .inl (fun _ => 0))), ((ad_14 3), .inl ((ac_15 3), 24, .inl (fun _ => 0))), ((ad_14 4), .inl ((ac_15 4), 24, .inl (fun _ => 0))), ((ad_14 5), .inl ((ac_15 5), 24, .inl (fun _ => 0)))]) (w1 := [(q_18, .inr (2, [.int 0, .int 0, .int 0, .int 0, .int 0]))]) hP hD [13] [0, 1, 2, 3, 4, 5, 6, 7, 8, 9, 10, 11, 12] rfl rfl (by decide) (by decide +kernel) hk1 hFc hP1 hD1
  generalize H1 = H at hP hS ⊢
  have hP : va_P (dC, dI) vwCl [(h0, .inr (7, [.int 0, .int 0, .int 0, .int 0, .int 0, .int 0, .int 0, .int 0, .int 0, .int 0, .ref q_1, .ref q_4, .ref q_11, .null, .null])), (q_1, .inr (4, [.null, .null, .int 0, .int 0, .int 0, .null, .null, .null, .int 0])), (q_4, .inr (6, [.ref (ad_7 0), .ref (ad_7 1), .ref (ad_7 2)])), ((ad_7 0), .inl ((ac_8 0), 8, .inl (fun _ => 0))), ((ad_7 1), .inl ((ac_8 1), 8, .inl (fun _ => 0))), ((ad_7 2), .inl ((ac_8 2), 8, .inl (fun _ => 0))), (q_11, .inr (8, [.ref (ad_14 0), .ref (ad_14 1), .ref (ad_14 2), .int 0, .ref (ad_14 3), .ref (ad_14 4), .ref (ad_14 5), .int 0, .int 0])), ((ad_14 0), .inl ((ac_15 0), 24, .inl (fun _ => 0))), ((ad_14 1), .inl ((ac_15 1), 24, .inl (fun _ => 0))), ((ad_14 2), .inl ((ac_15 2), 24, .inl (fun _ => 0))), ((ad_14 3), .inl ((ac_15 3), 24, .inl (fun _ => 0))), ((ad_14 4), .inl ((ac_15 4), 24, .inl (fun _ => 0))), ((ad_14 5), .inl ((ac_15 5), 24, .inl (fun _ => 0))), (q_18, .inr (2, [.int 0, .int 0, .int 0, .int 0, .int 0]))] H := hP
  have hD : va_D A [(h0, .inr (7, [.int 0, .int 0, .int 0, .int 0, .int 0, .int 0, .int 0, .int 0, .int 0, .int 0, .ref q_1, .ref q_4, .ref q_11, .null, .null])), (q_1, .inr (4, [.null, .null, .int 0, .int 0, .int 0, .null, .null, .null, .int 0])), (q_4, .inr (6, [.ref (ad_7 0), .ref (ad_7 1), .ref (ad_7 2)])), ((ad_7 0), .inl ((ac_8 0), 8, .inl (fun _ => 0))), ((ad_7 1), .inl ((ac_8 1), 8, .inl (fun _ => 0))), ((ad_7 2), .inl ((ac_8 2), 8, .inl (fun _ => 0))), (q_11, .inr (8, [.ref (ad_14 0), .ref (ad_14 1), .ref (ad_14 2), .int 0, .ref (ad_14 3), .ref (ad_14 4), .ref (ad_14 5), .int 0, .int 0])), ((ad_14 0), .inl ((ac_15 0), 24, .inl (fun _ => 0))), ((ad_14 1), .inl ((ac_15 1), 24, .inl (fun _ => 0))), ((ad_14 2), .inl ((ac_15 2), 24, .inl (fun _ => 0))), ((ad_14 3), .inl ((ac_15 3), 24, .inl (fun _ => 0))), ((ad_14 4), .inl ((ac_15 4), 24, .inl (fun _ => 0))), ((ad_14 5), .inl ((ac_15 5), 24, .inl (fun _ => 0))), (q_18, .inr (2, [.int 0, .int 0, .int 0, .int 0, .int 0]))] := hD
  refine W.widen (k := 13) (n := 194) (Nat.le_of_ble_eq_true rfl) (Nat.le_of_ble_eq_true rfl) ?_
  refine va_putF (D := (dC, dI)) (ci := 7) (v := .ref q_18) (ty := .object "ErrandGuild$Fault") (C := RX7) (T := TX7) (N := 15) hx hb hg gb_7 tyX7 tyX7_ok nmX7 hown hK hP hD hS 0 rfl rfl 13 (by decide) (hg _ gm_fieldLink_RX7_35_ErrandGuild_Run_fault_LErrandGuild_Fault_) (fun _ h9 => h9) rfl hin rfl (by decide +kernel) rfl rfl (Nat.le_of_ble_eq_true rfl) dX7_init_45 (fun H locs hP hD hS => ?_)
  have hP : va_P (dC, dI) vwCl [(h0, .inr (7, [.int 0, .int 0, .int 0, .int 0, .int 0, .int 0, .int 0, .int 0, .int 0, .int 0, .ref q_1, .ref q_4, .ref q_11, .ref q_18, .null])), (q_1, .inr (4, [.null, .null, .int 0, .int 0, .int 0, .null, .null, .null, .int 0])), (q_4, .inr (6, [.ref (ad_7 0), .ref (ad_7 1), .ref (ad_7 2)])), ((ad_7 0), .inl ((ac_8 0), 8, .inl (fun _ => 0))), ((ad_7 1), .inl ((ac_8 1), 8, .inl (fun _ => 0))), ((ad_7 2), .inl ((ac_8 2), 8, .inl (fun _ => 0))), (q_11, .inr (8, [.ref (ad_14 0), .ref (ad_14 1), .ref (ad_14 2), .int 0, .ref (ad_14 3), .ref (ad_14 4), .ref (ad_14 5), .int 0, .int 0])), ((ad_14 0), .inl ((ac_15 0), 24, .inl (fun _ => 0))), ((ad_14 1), .inl ((ac_15 1), 24, .inl (fun _ => 0))), ((ad_14 2), .inl ((ac_15 2), 24, .inl (fun _ => 0))), ((ad_14 3), .inl ((ac_15 3), 24, .inl (fun _ => 0))), ((ad_14 4), .inl ((ac_15 4), 24, .inl (fun _ => 0))), ((ad_14 5), .inl ((ac_15 5), 24, .inl (fun _ => 0))), (q_18, .inr (2, [.int 0, .int 0, .int 0, .int 0, .int 0]))] H := hP
  have hD : va_D A [(h0, .inr (7, [.int 0, .int 0, .int 0, .int 0, .int 0, .int 0, .int 0, .int 0, .int 0, .int 0, .ref q_1, .ref q_4, .ref q_11, .ref q_18, .null])), (q_1, .inr (4, [.null, .null, .int 0, .int 0, .int 0, .null, .null, .null, .int 0])), (q_4, .inr (6, [.ref (ad_7 0), .ref (ad_7 1), .ref (ad_7 2)])), ((ad_7 0), .inl ((ac_8 0), 8, .inl (fun _ => 0))), ((ad_7 1), .inl ((ac_8 1), 8, .inl (fun _ => 0))), ((ad_7 2), .inl ((ac_8 2), 8, .inl (fun _ => 0))), (q_11, .inr (8, [.ref (ad_14 0), .ref (ad_14 1), .ref (ad_14 2), .int 0, .ref (ad_14 3), .ref (ad_14 4), .ref (ad_14 5), .int 0, .int 0])), ((ad_14 0), .inl ((ac_15 0), 24, .inl (fun _ => 0))), ((ad_14 1), .inl ((ac_15 1), 24, .inl (fun _ => 0))), ((ad_14 2), .inl ((ac_15 2), 24, .inl (fun _ => 0))), ((ad_14 3), .inl ((ac_15 3), 24, .inl (fun _ => 0))), ((ad_14 4), .inl ((ac_15 4), 24, .inl (fun _ => 0))), ((ad_14 5), .inl ((ac_15 5), 24, .inl (fun _ => 0))), (q_18, .inr (2, [.int 0, .int 0, .int 0, .int 0, .int 0]))] := hD
  refine lv_aload_n hx hb dX7_init_48 rfl (lv_at hl 0 rfl) ?_
  refine va_new (ci := 0) (fs := [.int 0, .null, .int 0]) (C := RX0) (T := TX0) (N := 3) hx hb hg gb_0 tyX0 tyX0_ok hown (hg _ gm_classLink_RX7_39_RX0) (hg _ gm_instantiable_RX0_3) (hg _ gm_initialized_RX0) hK hP hD hS hA rfl df_X0 (Nat.le_of_ble_eq_true rfl) (Nat.le_of_ble_eq_true rfl) dX7_init_49 (fun q_21 H hP hD hS => ?_)
  have hP : va_P (dC, dI) vwCl [(h0, .inr (7, [.int 0, .int 0, .int 0, .int 0, .int 0, .int 0, .int 0, .int 0, .int 0, .int 0, .ref q_1, .ref q_4, .ref q_11, .ref q_18, .null])), (q_1, .inr (4, [.null, .null, .int 0, .int 0, .int 0, .null, .null, .null, .int 0])), (q_4, .inr (6, [.ref (ad_7 0), .ref (ad_7 1), .ref (ad_7 2)])), ((ad_7 0), .inl ((ac_8 0), 8, .inl (fun _ => 0))), ((ad_7 1), .inl ((ac_8 1), 8, .inl (fun _ => 0))), ((ad_7 2), .inl ((ac_8 2), 8, .inl (fun _ => 0))), (q_11, .inr (8, [.ref (ad_14 0), .ref (ad_14 1), .ref (ad_14 2), .int 0, .ref (ad_14 3), .ref (ad_14 4), .ref (ad_14 5), .int 0, .int 0])), ((ad_14 0), .inl ((ac_15 0), 24, .inl (fun _ => 0))), ((ad_14 1), .inl ((ac_15 1), 24, .inl (fun _ => 0))), ((ad_14 2), .inl ((ac_15 2), 24, .inl (fun _ => 0))), ((ad_14 3), .inl ((ac_15 3), 24, .inl (fun _ => 0))), ((ad_14 4), .inl ((ac_15 4), 24, .inl (fun _ => 0))), ((ad_14 5), .inl ((ac_15 5), 24, .inl (fun _ => 0))), (q_18, .inr (2, [.int 0, .int 0, .int 0, .int 0, .int 0])), (q_21, .inr (0, [.int 0, .null, .int 0]))] H := hP
  have hD : va_D A [(h0, .inr (7, [.int 0, .int 0, .int 0, .int 0, .int 0, .int 0, .int 0, .int 0, .int 0, .int 0, .ref q_1, .ref q_4, .ref q_11, .ref q_18, .null])), (q_1, .inr (4, [.null, .null, .int 0, .int 0, .int 0, .null, .null, .null, .int 0])), (q_4, .inr (6, [.ref (ad_7 0), .ref (ad_7 1), .ref (ad_7 2)])), ((ad_7 0), .inl ((ac_8 0), 8, .inl (fun _ => 0))), ((ad_7 1), .inl ((ac_8 1), 8, .inl (fun _ => 0))), ((ad_7 2), .inl ((ac_8 2), 8, .inl (fun _ => 0))), (q_11, .inr (8, [.ref (ad_14 0), .ref (ad_14 1), .ref (ad_14 2), .int 0, .ref (ad_14 3), .ref (ad_14 4), .ref (ad_14 5), .int 0, .int 0])), ((ad_14 0), .inl ((ac_15 0), 24, .inl (fun _ => 0))), ((ad_14 1), .inl ((ac_15 1), 24, .inl (fun _ => 0))), ((ad_14 2), .inl ((ac_15 2), 24, .inl (fun _ => 0))), ((ad_14 3), .inl ((ac_15 3), 24, .inl (fun _ => 0))), ((ad_14 4), .inl ((ac_15 4), 24, .inl (fun _ => 0))), ((ad_14 5), .inl ((ac_15 5), 24, .inl (fun _ => 0))), (q_18, .inr (2, [.int 0, .int 0, .int 0, .int 0, .int 0])), (q_21, .inr (0, [.int 0, .null, .int 0]))] := hD
  refine W.widen (k := 14) (n := 197) (Nat.le_of_ble_eq_true rfl) (Nat.le_of_ble_eq_true rfl) ?_
  refine lv_dup hx hb dX7_init_52 rfl ?_
  refine lv_ldc (v := 1048576) hx hb hown (hg _ gm_constant_RX7_41_1048576_) dX7_init_53 ?_
  have hPc := hP.sub (ws' := [(q_21, .inr (0, [.int 0, .null, .int 0]))]) [14] rfl
  have hDc := hD.sub (ws' := [(q_21, .inr (0, [.int 0, .null, .int 0]))]) [14] (by decide) rfl
  have hKc := hK.sub (tys' := []) [] rfl
  have hFc := va_free (wc := [(q_21, .inr (0, [.int 0, .null, .int 0]))]) hD hS hA [14] rfl
  refine va_callv (va_runI (As := [.int 1048576]) (rest := [.ref q_21, .ref h0]) ⟨hx, hb, hml, hown, hg⟩ (c_X0_init l dC dI q_21 1048576 H.size ) (cwI 1 hg (gw_c gm_code_yX0_init_cX0_init_2_none) rfl rfl rfl (hg _ gm_initialized_RX0) (hg _ gm_methodLink_RX7_42_yX0_init) (hg _ gm_instanceMethod_yX0_init) rfl (by decide +kernel) ⟨Nat.le_of_ble_eq_true rfl, Nat.le_of_ble_eq_true rfl⟩) ⟨fun a U g mk q => by obtain ⟨q0, q1, qP, qK, qD, qN⟩ := q; exact ⟨q0, q1, qP, va_K.moved (u := U) (U := U.calling g mk a) (Vm.Alike.refl U.vm) qK, qD, nx_same (u := U) (U := U.calling g mk a) rfl qN⟩, fun U hU hW => ⟨rfl, by rw [hU], by rw [hU]; exact hPc, va_K.moved hW.alike hKc, hDc.weaken (fun _ _ _ _ => trivial), nx_warm hW hN⟩⟩ rfl rfl hl.1 rfl (lv_room (Nat.le_of_ble_eq_true rfl)) dX7_init_55 ⟨Nat.le_of_ble_eq_true rfl, Nat.le_of_ble_eq_true rfl⟩) hS (fun q _ h => hFc q h) hFc (fun u_23 t H1 locs ht hvm hw hB hz1 hk1 hS => ?_)
  obtain ⟨ad_24, ac_25, af_26, ag_27⟩ := u_23
  obtain ⟨hP1, hD1, hK1⟩ := hB
  rw [ht] at hP1
  have hK1 := va_K.moved hvm.symm hK1
  obtain ⟨hP, hD⟩ := va_join (wr := [(h0, .inr (7, [.int 0, .int 0, .int 0, .int 0, .int 0, .int 0, .int 0, .int 0, .int 0, .int 0, .ref q_1, .ref q_4, .ref q_11, .ref q_18, .null])), (q_1, .inr (4, [.null, .null, .int 0, .int 0, .int 0, .null, .null, .null, .int 0])), (q_4, .inr (6, [.ref (ad_7 0), .ref (ad_7 1), .ref (ad_7 2)])), ((ad_7 0), .inl ((ac_8 0), 8, .inl (fun _ => 0))), ((ad_7 1), .inl ((ac_8 1), 8, .inl (fun _ => 0))), ((ad_7 2), .inl ((ac_8 2), 8, .inl (fun _ => 0))), (q_11, .inr (8, [.ref (ad_14 0), .ref (ad_14 1), .ref (ad_14 2), .int 0, .ref (ad_14 3), .ref (ad_14 4), .ref (ad_14 5), .int 0, .int 0])), ((ad_14 0), .inl ((ac_15 0), 24, .inl (fun _ => 0))), ((ad_14 1), .inl ((ac_15 1), 24, .inl (fun _ => 0))), ((ad_14 2), .inl ((ac_15 2), 24, .inl (fun _ => 0))), ((ad_14 3), .inl ((ac_15 3), 24, .inl (fun _ => 0))), ((ad_14 4), .inl ((ac_15 4), 24, .inl (fun _ => 0))), ((ad_14 5), .inl ((ac_15 5), 24, .inl (fun _ => 0))), (q_18, .inr (2, [.int 0, .int 0, .int 0, .int 0, .int 0]))]) (w1 := [(q_21, .inr (0, [.int 1048576, .ref (ad_24 0), .int 0])), ((ad_24 0), .inl ((ac_25 0), 16, .inl (fun _ => 0)))]) hP hD [14] [0, 1, 2, 3, 4, 5, 6, 7, 8, 9, 10, 11, 12, 13] rfl rfl (by decide) (by decide +kernel) hk1 hFc hP1 hD1
  have hK := hK.app hK1
  generalize H1 = H at hP hS ⊢
  have hK : va_K (dC, dI) vwCl [((ac_8 0), .boolean), ((ac_8 1), .int), ((ac_8 2), .int), ((ac_15 0), .int), ((ac_15 1), .int), ((ac_15 2), .int), ((ac_15 3), .int), ((ac_15 4), .int), ((ac_15 5), .int), ((ac_25 0), .int)] s := hK
  have hP : va_P (dC, dI) vwCl [(h0, .inr (7, [.int 0, .int 0, .int 0, .int 0, .int 0, .int 0, .int 0, .int 0, .int 0, .int 0, .ref q_1, .ref q_4, .ref q_11, .ref q_18, .null])), (q_1, .inr (4, [.null, .null, .int 0, .int 0, .int 0, .null, .null, .null, .int 0])), (q_4, .inr (6, [.ref (ad_7 0), .ref (ad_7 1), .ref (ad_7 2)])), ((ad_7 0), .inl ((ac_8 0), 8, .inl (fun _ => 0))), ((ad_7 1), .inl ((ac_8 1), 8, .inl (fun _ => 0))), ((ad_7 2), .inl ((ac_8 2), 8, .inl (fun _ => 0))), (q_11, .inr (8, [.ref (ad_14 0), .ref (ad_14 1), .ref (ad_14 2), .int 0, .ref (ad_14 3), .ref (ad_14 4), .ref (ad_14 5), .int 0, .int 0])), ((ad_14 0), .inl ((ac_15 0), 24, .inl (fun _ => 0))), ((ad_14 1), .inl ((ac_15 1), 24, .inl (fun _ => 0))), ((ad_14 2), .inl ((ac_15 2), 24, .inl (fun _ => 0))), ((ad_14 3), .inl ((ac_15 3), 24, .inl (fun _ => 0))), ((ad_14 4), .inl ((ac_15 4), 24, .inl (fun _ => 0))), ((ad_14 5), .inl ((ac_15 5), 24, .inl (fun _ => 0))), (q_18, .inr (2, [.int 0, .int 0, .int 0, .int 0, .int 0])), (q_21, .inr (0, [.int 1048576, .ref (ad_24 0), .int 0])), ((ad_24 0), .inl ((ac_25 0), 16, .inl (fun _ => 0)))] H := hP
  have hD : va_D A [(h0, .inr (7, [.int 0, .int 0, .int 0, .int 0, .int 0, .int 0, .int 0, .int 0, .int 0, .int 0, .ref q_1, .ref q_4, .ref q_11, .ref q_18, .null])), (q_1, .inr (4, [.null, .null, .int 0, .int 0, .int 0, .null, .null, .null, .int 0])), (q_4, .inr (6, [.ref (ad_7 0), .ref (ad_7 1), .ref (ad_7 2)])), ((ad_7 0), .inl ((ac_8 0), 8, .inl (fun _ => 0))), ((ad_7 1), .inl ((ac_8 1), 8, .inl (fun _ => 0))), ((ad_7 2), .inl ((ac_8 2), 8, .inl (fun _ => 0))), (q_11, .inr (8, [.ref (ad_14 0), .ref (ad_14 1), .ref (ad_14 2), .int 0, .ref (ad_14 3), .ref (ad_14 4), .ref (ad_14 5), .int 0, .int 0])), ((ad_14 0), .inl ((ac_15 0), 24, .inl (fun _ => 0))), ((ad_14 1), .inl ((ac_15 1), 24, .inl (fun _ => 0))), ((ad_14 2), .inl ((ac_15 2), 24, .inl (fun _ => 0))), ((ad_14 3), .inl ((ac_15 3), 24, .inl (fun _ => 0))), ((ad_14 4), .inl ((ac_15 4), 24, .inl (fun _ => 0))), ((ad_14 5), .inl ((ac_15 5), 24, .inl (fun _ => 0))), (q_18, .inr (2, [.int 0, .int 0, .int 0, .int 0, .int 0])), (q_21, .inr (0, [.int 1048576, .ref (ad_24 0), .int 0])), ((ad_24 0), .inl ((ac_25 0), 16, .inl (fun _ => 0)))] := hD
  refine W.widen (k := 15) (n := 213) (Nat.le_of_ble_eq_true rfl) (Nat.le_of_ble_eq_true rfl) ?_
  refine va_putF (D := (dC, dI)) (ci := 7) (v := .ref q_21) (ty := .object "ErrandGuild$Cells") (C := RX7) (T := TX7) (N := 15) hx hb hg gb_7 tyX7 tyX7_ok nmX7 hown hK hP hD hS 0 rfl rfl 14 (by decide) (hg _ gm_fieldLink_RX7_45_ErrandGuild_Run_remarks_LErrandGuild_Cells_) (fun _ h9 => h9) rfl hin rfl (by decide +kernel) rfl rfl (Nat.le_of_ble_eq_true rfl) dX7_init_58 (fun H locs hP hD hS => ?_)
  have hP : va_P (dC, dI) vwCl [(h0, .inr (7, [.int 0, .int 0, .int 0, .int 0, .int 0, .int 0, .int 0, .int 0, .int 0, .int 0, .ref q_1, .ref q_4, .ref q_11, .ref q_18, .ref q_21])), (q_1, .inr (4, [.null, .null, .int 0, .int 0, .int 0, .null, .null, .null, .int 0])), (q_4, .inr (6, [.ref (ad_7 0), .ref (ad_7 1), .ref (ad_7 2)])), ((ad_7 0), .inl ((ac_8 0), 8, .inl (fun _ => 0))), ((ad_7 1), .inl ((ac_8 1), 8, .inl (fun _ => 0))), ((ad_7 2), .inl ((ac_8 2), 8, .inl (fun _ => 0))), (q_11, .inr (8, [.ref (ad_14 0), .ref (ad_14 1), .ref (ad_14 2), .int 0, .ref (ad_14 3), .ref (ad_14 4), .ref (ad_14 5), .int 0, .int 0])), ((ad_14 0), .inl ((ac_15 0), 24, .inl (fun _ => 0))), ((ad_14 1), .inl ((ac_15 1), 24, .inl (fun _ => 0))), ((ad_14 2), .inl ((ac_15 2), 24, .inl (fun _ => 0))), ((ad_14 3), .inl ((ac_15 3), 24, .inl (fun _ => 0))), ((ad_14 4), .inl ((ac_15 4), 24, .inl (fun _ => 0))), ((ad_14 5), .inl ((ac_15 5), 24, .inl (fun _ => 0))), (q_18, .inr (2, [.int 0, .int 0, .int 0, .int 0, .int 0])), (q_21, .inr (0, [.int 1048576, .ref (ad_24 0), .int 0])), ((ad_24 0), .inl ((ac_25 0), 16, .inl (fun _ => 0)))] H := hP
  have hD : va_D A [(h0, .inr (7, [.int 0, .int 0, .int 0, .int 0, .int 0, .int 0, .int 0, .int 0, .int 0, .int 0, .ref q_1, .ref q_4, .ref q_11, .ref q_18, .ref q_21])), (q_1, .inr (4, [.null, .null, .int 0, .int 0, .int 0, .null, .null, .null, .int 0])), (q_4, .inr (6, [.ref (ad_7 0), .ref (ad_7 1), .ref (ad_7 2)])), ((ad_7 0), .inl ((ac_8 0), 8, .inl (fun _ => 0))), ((ad_7 1), .inl ((ac_8 1), 8, .inl (fun _ => 0))), ((ad_7 2), .inl ((ac_8 2), 8, .inl (fun _ => 0))), (q_11, .inr (8, [.ref (ad_14 0), .ref (ad_14 1), .ref (ad_14 2), .int 0, .ref (ad_14 3), .ref (ad_14 4), .ref (ad_14 5), .int 0, .int 0])), ((ad_14 0), .inl ((ac_15 0), 24, .inl (fun _ => 0))), ((ad_14 1), .inl ((ac_15 1), 24, .inl (fun _ => 0))), ((ad_14 2), .inl ((ac_15 2), 24, .inl (fun _ => 0))), ((ad_14 3), .inl ((ac_15 3), 24, .inl (fun _ => 0))), ((ad_14 4), .inl ((ac_15 4), 24, .inl (fun _ => 0))), ((ad_14 5), .inl ((ac_15 5), 24, .inl (fun _ => 0))), (q_18, .inr (2, [.int 0, .int 0, .int 0, .int 0, .int 0])), (q_21, .inr (0, [.int 1048576, .ref (ad_24 0), .int 0])), ((ad_24 0), .inl ((ac_25 0), 16, .inl (fun _ => 0)))] := hD
  refine lv_aload_n hx hb dX7_init_61 rfl (lv_at hl 0 rfl) ?_
  refine lv_iload_n hx hb dX7_init_62 rfl (lv_at hl 1 rfl) ?_
  refine va_putF (D := (dC, dI)) (ci := 7) (v := .int v1) (ty := .int) (C := RX7) (T := TX7) (N := 15) hx hb hg gb_7 tyX7 tyX7_ok nmX7 hown hK hP hD hS 0 rfl rfl 0 (by decide) (hg _ gm_fieldLink_RX7_49_ErrandGuild_Run_number_I_) (fun _ h9 => h9) rfl hin rfl (by decide +kernel) rfl rfl (Nat.le_of_ble_eq_true rfl) dX7_init_63 (fun H locs hP hD hS => ?_)
  have hP : va_P (dC, dI) vwCl [(h0, .inr (7, [.int v1, .int 0, .int 0, .int 0, .int 0, .int 0, .int 0, .int 0, .int 0, .int 0, .ref q_1, .ref q_4, .ref q_11, .ref q_18, .ref q_21])), (q_1, .inr (4, [.null, .null, .int 0, .int 0, .int 0, .null, .null, .null, .int 0])), (q_4, .inr (6, [.ref (ad_7 0), .ref (ad_7 1), .ref (ad_7 2)])), ((ad_7 0), .inl ((ac_8 0), 8, .inl (fun _ => 0))), ((ad_7 1), .inl ((ac_8 1), 8, .inl (fun _ => 0))), ((ad_7 2), .inl ((ac_8 2), 8, .inl (fun _ => 0))), (q_11, .inr (8, [.ref (ad_14 0), .ref (ad_14 1), .ref (ad_14 2), .int 0, .ref (ad_14 3), .ref (ad_14 4), .ref (ad_14 5), .int 0, .int 0])), ((ad_14 0), .inl ((ac_15 0), 24, .inl (fun _ => 0))), ((ad_14 1), .inl ((ac_15 1), 24, .inl (fun _ => 0))), ((ad_14 2), .inl ((ac_15 2), 24, .inl (fun _ => 0))), ((ad_14 3), .inl ((ac_15 3), 24, .inl (fun _ => 0))), ((ad_14 4), .inl ((ac_15 4), 24, .inl (fun _ => 0))), ((ad_14 5), .inl ((ac_15 5), 24, .inl (fun _ => 0))), (q_18, .inr (2, [.int 0, .int 0, .int 0, .int 0, .int 0])), (q_21, .inr (0, [.int 1048576, .ref (ad_24 0), .int 0])), ((ad_24 0), .inl ((ac_25 0), 16, .inl (fun _ => 0)))] H := hP
  have hD : va_D A [(h0, .inr (7, [.int v1, .int 0, .int 0, .int 0, .int 0, .int 0, .int 0, .int 0, .int 0, .int 0, .ref q_1, .ref q_4, .ref q_11, .ref q_18, .ref q_21])), (q_1, .inr (4, [.null, .null, .int 0, .int 0, .int 0, .null, .null, .null, .int 0])), (q_4, .inr (6, [.ref (ad_7 0), .ref (ad_7 1), .ref (ad_7 2)])), ((ad_7 0), .inl ((ac_8 0), 8, .inl (fun _ => 0))), ((ad_7 1), .inl ((ac_8 1), 8, .inl (fun _ => 0))), ((ad_7 2), .inl ((ac_8 2), 8, .inl (fun _ => 0))), (q_11, .inr (8, [.ref (ad_14 0), .ref (ad_14 1), .ref (ad_14 2), .int 0, .ref (ad_14 3), .ref (ad_14 4), .ref (ad_14 5), .int 0, .int 0])), ((ad_14 0), .inl ((ac_15 0), 24, .inl (fun _ => 0))), ((ad_14 1), .inl ((ac_15 1), 24, .inl (fun _ => 0))), ((ad_14 2), .inl ((ac_15 2), 24, .inl (fun _ => 0))), ((ad_14 3), .inl ((ac_15 3), 24, .inl (fun _ => 0))), ((ad_14 4), .inl ((ac_15 4), 24, .inl (fun _ => 0))), ((ad_14 5), .inl ((ac_15 5), 24, .inl (fun _ => 0))), (q_18, .inr (2, [.int 0, .int 0, .int 0, .int 0, .int 0])), (q_21, .inr (0, [.int 1048576, .ref (ad_24 0), .int 0])), ((ad_24 0), .inl ((ac_25 0), 16, .inl (fun _ => 0)))] := hD
  have hP9 := hP.sub (ws' := [(h0, .inr (7, [.int v1, .int 0, .int 0, .int 0, .int 0, .int 0, .int 0, .int 0, .int 0, .int 0, .ref q_1, .ref q_4, .ref q_11, .ref q_18, .ref q_21])), (q_1, .inr (4, [.null, .null, .int 0, .int 0, .int 0, .null, .null, .null, .int 0])), (q_4, .inr (6, [.ref (ad_7 0), .ref (ad_7 1), .ref (ad_7 2)])), ((ad_7 0), .inl ((ac_8 0), 8, .inl (fun _ => 0))), ((ad_7 1), .inl ((ac_8 1), 8, .inl (fun _ => 0))), ((ad_7 2), .inl ((ac_8 2), 8, .inl (fun _ => 0))), (q_11, .inr (8, [.ref (ad_14 0), .ref (ad_14 1), .ref (ad_14 2), .int 0, .ref (ad_14 3), .ref (ad_14 4), .ref (ad_14 5), .int 0, .int 0])), ((ad_14 0), .inl ((ac_15 0), 24, .inl (fun _ => 0))), ((ad_14 1), .inl ((ac_15 1), 24, .inl (fun _ => 0))), ((ad_14 2), .inl ((ac_15 2), 24, .inl (fun _ => 0))), ((ad_14 3), .inl ((ac_15 3), 24, .inl (fun _ => 0))), ((ad_14 4), .inl ((ac_15 4), 24, .inl (fun _ => 0))), ((ad_14 5), .inl ((ac_15 5), 24, .inl (fun _ => 0))), (q_18, .inr (2, [.int 0, .int 0, .int 0, .int 0, .int 0])), (q_21, .inr (0, [.int 1048576, .ref (ad_24 0), .int 0])), ((ad_24 0), .inl ((ac_25 0), 16, .inl (fun _ => 0)))]) [0, 1, 2, 3, 4, 5, 6, 7, 8, 9, 10, 11, 12, 13, 14, 15] rfl
  have hD9 := hD.sub (ws' := [(h0, .inr (7, [.int v1, .int 0, .int 0, .int 0, .int 0, .int 0, .int 0, .int 0, .int 0, .int 0, .ref q_1, .ref q_4, .ref q_11, .ref q_18, .ref q_21])), (q_1, .inr (4, [.null, .null, .int 0, .int 0, .int 0, .null, .null, .null, .int 0])), (q_4, .inr (6, [.ref (ad_7 0), .ref (ad_7 1), .ref (ad_7 2)])), ((ad_7 0), .inl ((ac_8 0), 8, .inl (fun _ => 0))), ((ad_7 1), .inl ((ac_8 1), 8, .inl (fun _ => 0))), ((ad_7 2), .inl ((ac_8 2), 8, .inl (fun _ => 0))), (q_11, .inr (8, [.ref (ad_14 0), .ref (ad_14 1), .ref (ad_14 2), .int 0, .ref (ad_14 3), .ref (ad_14 4), .ref (ad_14 5), .int 0, .int 0])), ((ad_14 0), .inl ((ac_15 0), 24, .inl (fun _ => 0))), ((ad_14 1), .inl ((ac_15 1), 24, .inl (fun _ => 0))), ((ad_14 2), .inl ((ac_15 2), 24, .inl (fun _ => 0))), ((ad_14 3), .inl ((ac_15 3), 24, .inl (fun _ => 0))), ((ad_14 4), .inl ((ac_15 4), 24, .inl (fun _ => 0))), ((ad_14 5), .inl ((ac_15 5), 24, .inl (fun _ => 0))), (q_18, .inr (2, [.int 0, .int 0, .int 0, .int 0, .int 0])), (q_21, .inr (0, [.int 1048576, .ref (ad_24 0), .int 0])), ((ad_24 0), .inl ((ac_25 0), 16, .inl (fun _ => 0)))]) [0, 1, 2, 3, 4, 5, 6, 7, 8, 9, 10, 11, 12, 13, 14, 15] (by decide) rfl
  have hK9 := hK.sub (tys' := [((ac_8 0), .boolean), ((ac_8 1), .int), ((ac_8 2), .int), ((ac_15 0), .int), ((ac_15 1), .int), ((ac_15 2), .int), ((ac_15 3), .int), ((ac_15 4), .int), ((ac_15 5), .int), ((ac_25 0), .int)]) [0, 1, 2, 3, 4, 5, 6, 7, 8, 9] rfl
  exact W.vret hx hb hr (fun t ht hW => ⟨⟨((fun k => ([0, q_1, q_4, (ad_7 0), (ad_7 1), (ad_7 2), q_11, (ad_14 0), (ad_14 1), (ad_14 2), (ad_14 3), (ad_14 4), (ad_14 5), q_18, q_21, (ad_24 0)] : List Nat).getD k 0), (fun k => ([(dC 0), (dC 0), (dC 0), (ac_8 0), (ac_8 1), (ac_8 2), (dC 0), (ac_15 0), (ac_15 1), (ac_15 2), (ac_15 3), (ac_15 4), (ac_15 5), (dC 0), (dC 0), (ac_25 0)] : List ClassId).getD k (dC 0)), (fun _ => (fun _ => 0)), (fun _ => (fun _ => none))), rfl, trivial, by rw [ht]; exact hP9, hD9, va_K.moved hW.alike hK9⟩, hS.F ht⟩) hS.2.2 dX7_init_66
