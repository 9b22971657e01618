set_option maxHeartbeats 4000000 in
set_option maxRecDepth 100000 in
theorem c_X0_clear (l : Launch) (dC : Nat → ClassId) (dI : Nat → Nat → Nat) (h0 : Nat) (w0 : Nat) (lm : Int32) (us : Int32) (sz : Nat)  : Met l yX0_clear (.code yX0_clear cX0_clear 1 none :: gw) ({ frames := 0, cells := 0, slots := 0, locals := 0 }) (va_Pc [.ref h0] (fun U => U.heap.size = sz ∧ va_P (dC, dI) vwCl [(h0, .inr (0, [.int lm, .ref w0, .int us]))] U.heap ∧ va_K (dC, dI) vwCl [] U ∧ va_D (fun _ => True) [(h0, .inr (0, [.int lm, .ref w0, .int us]))] ∧ nx U)) (va_Qv (fun (u : wS) => True) (fun u t => va_P (dC, dI) vwCl [(h0, .inr (0, [.int lm, .ref w0, .int 0]))] t.heap ∧ va_D (va_A [(h0, .inr (0, [.int lm, .ref w0, .int us]))] sz) [(h0, .inr (0, [.int lm, .ref w0, .int 0]))] ∧ va_K (dC, dI) vwCl [] t) (va_A [(h0, .inr (0, [.int lm, .ref w0, .int us]))] sz)) 0 0 (va_A [(h0, .inr (0, [.int lm, .ref w0, .int us]))] sz) := by
  refine Met.ofW (cc := cX0_clear) (maxL := 1) (ret := none) (by decide) rfl ?_
  intro p e s m args below meth c s₁ B hml hv
  obtain ⟨rfl, hsz, hP, hK, hD0, hN⟩ := hv
  have hx := B.exec
  have hb := B.bytes
  have hr := B.returns
  have hts := atoms_spec (ws := .code yX0_clear cX0_clear 1 none :: gw) B.pre
  have hg : ∀ w ∈ gw, w.before _ s = true := fun w h => hts w (List.mem_cons_of_mem _ h)
  have hown : s.vm.findClass RX0 = some m.cls := findClass_of_methodNamed B.named
  have hlocks := B.notSynchronized
  subst hsz
  have hD := hD0.self (sz := s.heap.size)
  generalize hAe : va_A [(h0, .inr (0, [.int lm, .ref w0, .int us]))] s.heap.size = A at hD ⊢
  have hA : ∀ q : Nat, s.heap.size ≤ q → A q := fun q h => by rw [← hAe]; exact Or.inr h
  have hS : va_S A s.heap s.heap [] := va_S.rf
  have hP : va_P (dC, dI) vwCl [(h0, .inr (0, [.int lm, .ref w0, .int us]))] s.heap := hP
  have hl := lv_entry ([.ref h0]) (n := 1) (Nat.le_of_ble_eq_true rfl)
  rw [lg_entry_eq]
  generalize (lg_sl ([.ref h0]) ++ List.replicate (1 - (lg_sl ([.ref h0])).length) Slot.unset).toArray = ls at hl ⊢
  have hl : lv_has ls 1 [(0, .ref h0)] := hl
  refine lv_aload_n hx hb dX0_clear_0 rfl (lv_at hl 0 rfl) ?_
  refine lv_iconst (v := 0) hx hb dX0_clear_1 (by decide) ?_
  refine va_put (D := (dC, dI)) (ci := 0) (v := .int 0) (ty := .int) (C := RX0) (T := TX0) (N := 3) hx hb hg gb_0 tyX0 tyX0_ok nmX0 hown hK hP hD hS 0 rfl rfl 2 (by decide) (hg _ gm_fieldLink_RX0_19_ErrandGuild_Cells_used_I_) (fun _ h9 => h9) rfl (by decide +kernel) rfl rfl (Nat.le_of_ble_eq_true rfl) dX0_clear_2 (fun H locs hP hD hS => ?_)
  have hP : va_P (dC, dI) vwCl [(h0, .inr (0, [.int lm, .ref w0, .int 0]))] H := hP
  have hD : va_D A [(h0, .inr (0, [.int lm, .ref w0, .int 0]))] := hD
  have hP9 := hP.sub (ws' := [(h0, .inr (0, [.int lm, .ref w0, .int 0]))]) [0] rfl
  have hD9 := hD.sub (ws' := [(h0, .inr (0, [.int lm, .ref w0, .int 0]))]) [0] (by decide) rfl
  have hK9 := hK.sub (tys' := []) [] rfl
  exact W.vret hx hb hr (fun t ht hW => ⟨⟨((fun _ => 0), (fun _ => (dC 0)), (fun _ => (fun _ => 0)), (fun _ => (fun _ => none))), rfl, trivial, by rw [ht]; exact hP9, hD9, va_K.moved hW.alike hK9⟩, hS.F ht⟩) hS.2.2 dX0_clear_5

set_option maxHeartbeats 4000000 in
set_option maxRecDepth 100000 in
theorem c_X0_has (l : Launch) (dC : Nat → ClassId) (dI : Nat → Nat → Nat) (h0 : Nat) (w0 : Nat) (cn : Nat) (k0 : ClassId) (f0 : Nat → Int32) (lm : Int32) (us : Int32) (v1 : Int32) (sz : Nat) (hcn : cn ≤ 1048576) (hus : us.toInt ≤ (cn : Int)) : Met l yX0_has (.code yX0_has cX0_has 2 (some .boolean) :: gw) ({ frames := 0, cells := 0, slots := 0, locals := 0 }) (va_Pc [.ref h0, .int v1] (fun U => U.heap.size = sz ∧ va_P (dC, dI) vwCl [(h0, .inr (0, [.int lm, .ref w0, .int us])), (w0, .inl (k0, cn, .inl f0))] U.heap ∧ va_K (dC, dI) vwCl [(k0, .int)] U ∧ va_D (fun _ => True) [(h0, .inr (0, [.int lm, .ref w0, .int us])), (w0, .inl (k0, cn, .inl f0))] ∧ nx U)) (va_Qi (fun (r : Int32) (u : Unit) => (r = 1 ∧ (0 ≤ v1.toInt ∧ v1.toInt < us.toInt)) ∨ (r = 0 ∧ ¬ (0 ≤ v1.toInt ∧ v1.toInt < us.toInt))) (fun _ t => va_P (dC, dI) vwCl [(h0, .inr (0, [.int lm, .ref w0, .int us])), (w0, .inl (k0, cn, .inl f0))] t.heap ∧ va_D (va_A [(h0, .inr (0, [.int lm, .ref w0, .int us])), (w0, .inl (k0, cn, .inl f0))] sz) [(h0, .inr (0, [.int lm, .ref w0, .int us])), (w0, .inl (k0, cn, .inl f0))]) (va_A [(h0, .inr (0, [.int lm, .ref w0, .int us])), (w0, .inl (k0, cn, .inl f0))] sz)) 0 0 (va_A [(h0, .inr (0, [.int lm, .ref w0, .int us])), (w0, .inl (k0, cn, .inl f0))] sz) := by
  refine Met.ofW (cc := cX0_has) (maxL := 2) (ret := (some .boolean)) (by decide) rfl ?_
  intro p e s m args below meth c s₁ B hml hv
  obtain ⟨rfl, hsz, hP, hK, hD0, hN⟩ := hv
  have hx := B.exec
  have hb := B.bytes
  have hr := B.returns
  have hts := atoms_spec (ws := .code yX0_has cX0_has 2 (some .boolean) :: gw) B.pre
  have hg : ∀ w ∈ gw, w.before _ s = true := fun w h => hts w (List.mem_cons_of_mem _ h)
  have hown : s.vm.findClass RX0 = some m.cls := findClass_of_methodNamed B.named
  have hlocks := B.notSynchronized
  subst hsz
  have hD := hD0.self (sz := s.heap.size)
  generalize hAe : va_A [(h0, .inr (0, [.int lm, .ref w0, .int us])), (w0, .inl (k0, cn, .inl f0))] s.heap.size = A at hD ⊢
  have hA : ∀ q : Nat, s.heap.size ≤ q → A q := fun q h => by rw [← hAe]; exact Or.inr h
  have hS : va_S A s.heap s.heap [] := va_S.rf
  have hP : va_P (dC, dI) vwCl [(h0, .inr (0, [.int lm, .ref w0, .int us])), (w0, .inl (k0, cn, .inl f0))] s.heap := hP
  have hl := lv_entry ([.ref h0, .int v1]) (n := 2) (Nat.le_of_ble_eq_true rfl)
  rw [lg_entry_eq]
  generalize (lg_sl ([.ref h0, .int v1]) ++ List.replicate (2 - (lg_sl ([.ref h0, .int v1])).length) Slot.unset).toArray = ls at hl ⊢
  have hl : lv_has ls 2 [(0, .ref h0), (1, .int v1)] := hl
  refine lv_iload_n hx hb dX0_has_0 rfl (lv_at hl 1 rfl) ?_
  refine lv_if_lt (tgt := 25) hx hb dX0_has_1 (by decide) (fun c_1 => ?_) (fun c_1 => ?_)
  · simp only [i_lt, i_le, i_eq, ti_0] at c_1
    refine lv_iconst (v := 0) hx hb dX0_has_25 (by decide) ?_
    have hP9 := hP.sub (ws' := [(h0, .inr (0, [.int lm, .ref w0, .int us])), (w0, .inl (k0, cn, .inl f0))]) [0, 1] rfl
    have hD9 := hD.sub (ws' := [(h0, .inr (0, [.int lm, .ref w0, .int us])), (w0, .inl (k0, cn, .inl f0))]) [0, 1] (by decide) rfl
    exact W.zret (v := 0) hx hb hr rfl (fun t ht hW => ⟨⟨0, (), rfl, (Or.inr ⟨rfl, by omega⟩), by rw [ht]; exact hP9, hD9⟩, hS.F ht⟩) hS.2.2 dX0_has_26
  · simp only [i_lt, i_le, i_eq, ti_0] at c_1
    refine lv_iload_n hx hb dX0_has_4 rfl (lv_at hl 1 rfl) ?_
    refine lv_aload_n hx hb dX0_has_5 rfl (lv_at hl 0 rfl) ?_
    refine va_get (D := (dC, dI)) (ci := 0) (v := .int us) (C := RX0) (T := TX0) (N := 3) hx hb hg gb_0 hown hK hP 0 rfl rfl 2 (by decide) (hg _ gm_fieldLink_RX0_19_ErrandGuild_Cells_used_I_) (fun _ h9 => h9) rfl dX0_has_6 ?_
    refine lv_icmp_ge (tgt := 25) hx hb dX0_has_9 (by decide) (fun c_2 => ?_) (fun c_2 => ?_)
    · simp only [i_lt, i_le, i_eq] at c_2
      refine lv_iconst (v := 0) hx hb dX0_has_25 (by decide) ?_
      have hP9 := hP.sub (ws' := [(h0, .inr (0, [.int lm, .ref w0, .int us])), (w0, .inl (k0, cn, .inl f0))]) [0, 1] rfl
      have hD9 := hD.sub (ws' := [(h0, .inr (0, [.int lm, .ref w0, .int us])), (w0, .inl (k0, cn, .inl f0))]) [0, 1] (by decide) rfl
      exact W.zret (v := 0) hx hb hr rfl (fun t ht hW => ⟨⟨0, (), rfl, (Or.inr ⟨rfl, by omega⟩), by rw [ht]; exact hP9, hD9⟩, hS.F ht⟩) hS.2.2 dX0_has_26
    · simp only [i_lt, i_le, i_eq] at c_2
      refine lv_iload_n hx hb dX0_has_12 rfl (lv_at hl 1 rfl) ?_
      refine lv_aload_n hx hb dX0_has_13 rfl (lv_at hl 0 rfl) ?_
      refine va_get (D := (dC, dI)) (ci := 0) (v := .ref w0) (C := RX0) (T := TX0) (N := 3) hx hb hg gb_0 hown hK hP 0 rfl rfl 1 (by decide) (hg _ gm_fieldLink_RX0_9_ErrandGuild_Cells_cells_AI_) (fun _ h9 => h9) rfl dX0_has_14 ?_
      refine va_alen (v := nI cn) hx hb hK hP 1 0 rfl rfl rfl dX0_has_17 ?_
      have tn_3 : (nI cn).toInt = (cn : Int) := nI_toInt (by omega)
      refine lv_icmp_ge (tgt := 25) hx hb dX0_has_18 (by decide) (fun c_4 => ?_) (fun c_4 => ?_)
      · simp only [i_lt, i_le, i_eq] at c_4
        refine lv_iconst (v := 0) hx hb dX0_has_25 (by decide) ?_
        have hP9 := hP.sub (ws' := [(h0, .inr (0, [.int lm, .ref w0, .int us])), (w0, .inl (k0, cn, .inl f0))]) [0, 1] rfl
        have hD9 := hD.sub (ws' := [(h0, .inr (0, [.int lm, .ref w0, .int us])), (w0, .inl (k0, cn, .inl f0))]) [0, 1] (by decide) rfl
        exact W.zret (v := 0) hx hb hr rfl (fun t ht hW => ⟨⟨0, (), rfl, (Or.inr ⟨rfl, by omega⟩), by rw [ht]; exact hP9, hD9⟩, hS.F ht⟩) hS.2.2 dX0_has_26
      · simp only [i_lt, i_le, i_eq] at c_4
        refine lv_iconst (v := 1) hx hb dX0_has_21 (by decide) ?_
        refine lv_goto (tgt := 26) hx hb dX0_has_22 (by decide) ?_
        have hP9 := hP.sub (ws' := [(h0, .inr (0, [.int lm, .ref w0, .int us])), (w0, .inl (k0, cn, .inl f0))]) [0, 1] rfl
        have hD9 := hD.sub (ws' := [(h0, .inr (0, [.int lm, .ref w0, .int us])), (w0, .inl (k0, cn, .inl f0))]) [0, 1] (by decide) rfl
        exact W.zret (v := 1) hx hb hr rfl (fun t ht hW => ⟨⟨1, (), rfl, (Or.inl ⟨rfl, by omega⟩), by rw [ht]; exact hP9, hD9⟩, hS.F ht⟩) hS.2.2 dX0_has_26

set_option maxHeartbeats 4000000 in
set_option maxRecDepth 100000 in
theorem c_X8_clear (l : Launch) (dC : Nat → ClassId) (dI : Nat → Nat → Nat) (h0 : Nat) (w0 : Nat) (w1 : Nat) (w2 : Nat) (w3 : Nat) (w4 : Nat) (w5 : Nat) (s3 : Int32) (s7 : Int32) (s8 : Int32) (sz : Nat)  : Met l yX8_clear (.code yX8_clear cX8_clear 1 none :: gw) ({ frames := 0, cells := 0, slots := 0, locals := 0 }) (va_Pc [.ref h0] (fun U => U.heap.size = sz ∧ va_P (dC, dI) vwCl [(h0, .inr (8, [.ref w0, .ref w1, .ref w2, .int s3, .ref w3, .ref w4, .ref w5, .int s7, .int s8]))] U.heap ∧ va_K (dC, dI) vwCl [] U ∧ va_D (fun _ => True) [(h0, .inr (8, [.ref w0, .ref w1, .ref w2, .int s3, .ref w3, .ref w4, .ref w5, .int s7, .int s8]))] ∧ nx U)) (va_Qv (fun (u : wS) => True) (fun u t => va_P (dC, dI) vwCl [(h0, .inr (8, [.ref w0, .ref w1, .ref w2, .int 0, .ref w3, .ref w4, .ref w5, .int 0, .int 0]))] t.heap ∧ va_D (va_A [(h0, .inr (8, [.ref w0, .ref w1, .ref w2, .int s3, .ref w3, .ref w4, .ref w5, .int s7, .int s8]))] sz) [(h0, .inr (8, [.ref w0, .ref w1, .ref w2, .int 0, .ref w3, .ref w4, .ref w5, .int 0, .int 0]))] ∧ va_K (dC, dI) vwCl [] t) (va_A [(h0, .inr (8, [.ref w0, .ref w1, .ref w2, .int s3, .ref w3, .ref w4, .ref w5, .int s7, .int s8]))] sz)) 0 0 (va_A [(h0, .inr (8, [.ref w0, .ref w1, .ref w2, .int s3, .ref w3, .ref w4, .ref w5, .int s7, .int s8]))] sz) := by
  refine Met.ofW (cc := cX8_clear) (maxL := 1) (ret := none) (by decide) rfl ?_
  intro p e s m args below meth c s₁ B hml hv
  obtain ⟨rfl, hsz, hP, hK, hD0, hN⟩ := hv
  have hx := B.exec
  have hb := B.bytes
  have hr := B.returns
  have hts := atoms_spec (ws := .code yX8_clear cX8_clear 1 none :: gw) B.pre
  have hg : ∀ w ∈ gw, w.before _ s = true := fun w h => hts w (List.mem_cons_of_mem _ h)
  have hown : s.vm.findClass RX8 = some m.cls := findClass_of_methodNamed B.named
  have hlocks := B.notSynchronized
  subst hsz
  have hD := hD0.self (sz := s.heap.size)
  generalize hAe : va_A [(h0, .inr (8, [.ref w0, .ref w1, .ref w2, .int s3, .ref w3, .ref w4, .ref w5, .int s7, .int s8]))] s.heap.size = A at hD ⊢
  have hA : ∀ q : Nat, s.heap.size ≤ q → A q := fun q h => by rw [← hAe]; exact Or.inr h
  have hS : va_S A s.heap s.heap [] := va_S.rf
  have hP : va_P (dC, dI) vwCl [(h0, .inr (8, [.ref w0, .ref w1, .ref w2, .int s3, .ref w3, .ref w4, .ref w5, .int s7, .int s8]))] s.heap := hP
  have hl := lv_entry ([.ref h0]) (n := 1) (Nat.le_of_ble_eq_true rfl)
  rw [lg_entry_eq]
  generalize (lg_sl ([.ref h0]) ++ List.replicate (1 - (lg_sl ([.ref h0])).length) Slot.unset).toArray = ls at hl ⊢
  have hl : lv_has ls 1 [(0, .ref h0)] := hl
  refine lv_aload_n hx hb dX8_clear_0 rfl (lv_at hl 0 rfl) ?_
  refine lv_iconst (v := 0) hx hb dX8_clear_1 (by decide) ?_
  refine va_put (D := (dC, dI)) (ci := 8) (v := .int 0) (ty := .int) (C := RX8) (T := TX8) (N := 9) hx hb hg gb_8 tyX8 tyX8_ok nmX8 hown hK hP hD hS 0 rfl rfl 3 (by decide) (hg _ gm_fieldLink_RX8_30_ErrandGuild_Scopes_bindings_I_) (fun _ h9 => h9) rfl (by decide +kernel) rfl rfl (Nat.le_of_ble_eq_true rfl) dX8_clear_2 (fun H locs hP hD hS => ?_)
  have hP : va_P (dC, dI) vwCl [(h0, .inr (8, [.ref w0, .ref w1, .ref w2, .int 0, .ref w3, .ref w4, .ref w5, .int s7, .int s8]))] H := hP
  have hD : va_D A [(h0, .inr (8, [.ref w0, .ref w1, .ref w2, .int 0, .ref w3, .ref w4, .ref w5, .int s7, .int s8]))] := hD
  refine lv_aload_n hx hb dX8_clear_5 rfl (lv_at hl 0 rfl) ?_
  refine lv_iconst (v := 0) hx hb dX8_clear_6 (by decide) ?_
  refine va_put (D := (dC, dI)) (ci := 8) (v := .int 0) (ty := .int) (C := RX8) (T := TX8) (N := 9) hx hb hg gb_8 tyX8 tyX8_ok nmX8 hown hK hP hD hS 0 rfl rfl 7 (by decide) (hg _ gm_fieldLink_RX8_34_ErrandGuild_Scopes_tries_I_) (fun _ h9 => h9) rfl (by decide +kernel) rfl rfl (Nat.le_of_ble_eq_true rfl) dX8_clear_7 (fun H locs hP hD hS => ?_)
  have hP : va_P (dC, dI) vwCl [(h0, .inr (8, [.ref w0, .ref w1, .ref w2, .int 0, .ref w3, .ref w4, .ref w5, .int 0, .int s8]))] H := hP
  have hD : va_D A [(h0, .inr (8, [.ref w0, .ref w1, .ref w2, .int 0, .ref w3, .ref w4, .ref w5, .int 0, .int s8]))] := hD
  refine lv_aload_n hx hb dX8_clear_10 rfl (lv_at hl 0 rfl) ?_
  refine lv_iconst (v := 0) hx hb dX8_clear_11 (by decide) ?_
  refine va_put (D := (dC, dI)) (ci := 8) (v := .int 0) (ty := .int) (C := RX8) (T := TX8) (N := 9) hx hb hg gb_8 tyX8 tyX8_ok nmX8 hown hK hP hD hS 0 rfl rfl 8 (by decide) (hg _ gm_fieldLink_RX8_37_ErrandGuild_Scopes_marks_I_) (fun _ h9 => h9) rfl (by decide +kernel) rfl rfl (Nat.le_of_ble_eq_true rfl) dX8_clear_12 (fun H locs hP hD hS => ?_)
  have hP : va_P (dC, dI) vwCl [(h0, .inr (8, [.ref w0, .ref w1, .ref w2, .int 0, .ref w3, .ref w4, .ref w5, .int 0, .int 0]))] H := hP
  have hD : va_D A [(h0, .inr (8, [.ref w0, .ref w1, .ref w2, .int 0, .ref w3, .ref w4, .ref w5, .int 0, .int 0]))] := hD
  have hP9 := hP.sub (ws' := [(h0, .inr (8, [.ref w0, .ref w1, .ref w2, .int 0, .ref w3, .ref w4, .ref w5, .int 0, .int 0]))]) [0] rfl
  have hD9 := hD.sub (ws' := [(h0, .inr (8, [.ref w0, .ref w1, .ref w2, .int 0, .ref w3, .ref w4, .ref w5, .int 0, .int 0]))]) [0] (by decide) rfl
  have hK9 := hK.sub (tys' := []) [] rfl
  exact W.vret hx hb hr (fun t ht hW => ⟨⟨((fun _ => 0), (fun _ => (dC 0)), (fun _ => (fun _ => 0)), (fun _ => (fun _ => none))), rfl, trivial, by rw [ht]; exact hP9, hD9, va_K.moved hW.alike hK9⟩, hS.F ht⟩) hS.2.2 dX8_clear_15

set_option maxHeartbeats 4000000 in
set_option maxRecDepth 100000 in
theorem c_X8_endBindings (l : Launch) (dC : Nat → ClassId) (dI : Nat → Nat → Nat) (h0 : Nat) (w0 : Nat) (w1 : Nat) (w2 : Nat) (w3 : Nat) (w4 : Nat) (w5 : Nat) (s3 : Int32) (s7 : Int32) (s8 : Int32) (sz : Nat)  : Met l yX8_endBindings (.code yX8_endBindings cX8_endBindings 1 none :: gw) ({ frames := 0, cells := 0, slots := 0, locals := 0 }) (va_Pc [.ref h0] (fun U => U.heap.size = sz ∧ va_P (dC, dI) vwCl [(h0, .inr (8, [.ref w0, .ref w1, .ref w2, .int s3, .ref w3, .ref w4, .ref w5, .int s7, .int s8]))] U.heap ∧ va_K (dC, dI) vwCl [] U ∧ va_D (fun _ => True) [(h0, .inr (8, [.ref w0, .ref w1, .ref w2, .int s3, .ref w3, .ref w4, .ref w5, .int s7, .int s8]))] ∧ nx U)) (va_Qv (fun (u : wS) => True) (fun u t => va_P (dC, dI) vwCl [(h0, .inr (8, [.ref w0, .ref w1, .ref w2, .int 0, .ref w3, .ref w4, .ref w5, .int s7, .int s8]))] t.heap ∧ va_D (va_A [(h0, .inr (8, [.ref w0, .ref w1, .ref w2, .int s3, .ref w3, .ref w4, .ref w5, .int s7, .int s8]))] sz) [(h0, .inr (8, [.ref w0, .ref w1, .ref w2, .int 0, .ref w3, .ref w4, .ref w5, .int s7, .int s8]))] ∧ va_K (dC, dI) vwCl [] t) (va_A [(h0, .inr (8, [.ref w0, .ref w1, .ref w2, .int s3, .ref w3, .ref w4, .ref w5, .int s7, .int s8]))] sz)) 0 0 (va_A [(h0, .inr (8, [.ref w0, .ref w1, .ref w2, .int s3, .ref w3, .ref w4, .ref w5, .int s7, .int s8]))] sz) := by
  refine Met.ofW (cc := cX8_endBindings) (maxL := 1) (ret := none) (by decide) rfl ?_
  intro p e s m args below meth c s₁ B hml hv
  obtain ⟨rfl, hsz, hP, hK, hD0, hN⟩ := hv
  have hx := B.exec
  have hb := B.bytes
  have hr := B.returns
  have hts := atoms_spec (ws := .code yX8_endBindings cX8_endBindings 1 none :: gw) B.pre
  have hg : ∀ w ∈ gw, w.before _ s = true := fun w h => hts w (List.mem_cons_of_mem _ h)
  have hown : s.vm.findClass RX8 = some m.cls := findClass_of_methodNamed B.named
  have hlocks := B.notSynchronized
  subst hsz
  have hD := hD0.self (sz := s.heap.size)
  generalize hAe : va_A [(h0, .inr (8, [.ref w0, .ref w1, .ref w2, .int s3, .ref w3, .ref w4, .ref w5, .int s7, .int s8]))] s.heap.size = A at hD ⊢
  have hA : ∀ q : Nat, s.heap.size ≤ q → A q := fun q h => by rw [← hAe]; exact Or.inr h
  have hS : va_S A s.heap s.heap [] := va_S.rf
  have hP : va_P (dC, dI) vwCl [(h0, .inr (8, [.ref w0, .ref w1, .ref w2, .int s3, .ref w3, .ref w4, .ref w5, .int s7, .int s8]))] s.heap := hP
  have hl := lv_entry ([.ref h0]) (n := 1) (Nat.le_of_ble_eq_true rfl)
  rw [lg_entry_eq]
  generalize (lg_sl ([.ref h0]) ++ List.replicate (1 - (lg_sl ([.ref h0])).length) Slot.unset).toArray = ls at hl ⊢
  have hl : lv_has ls 1 [(0, .ref h0)] := hl
  refine lv_aload_n hx hb dX8_endBindings_0 rfl (lv_at hl 0 rfl) ?_
  refine lv_iconst (v := 0) hx hb dX8_endBindings_1 (by decide) ?_
  refine va_put (D := (dC, dI)) (ci := 8) (v := .int 0) (ty := .int) (C := RX8) (T := TX8) (N := 9) hx hb hg gb_8 tyX8 tyX8_ok nmX8 hown hK hP hD hS 0 rfl rfl 3 (by decide) (hg _ gm_fieldLink_RX8_30_ErrandGuild_Scopes_bindings_I_) (fun _ h9 => h9) rfl (by decide +kernel) rfl rfl (Nat.le_of_ble_eq_true rfl) dX8_endBindings_2 (fun H locs hP hD hS => ?_)
  have hP : va_P (dC, dI) vwCl [(h0, .inr (8, [.ref w0, .ref w1, .ref w2, .int 0, .ref w3, .ref w4, .ref w5, .int s7, .int s8]))] H := hP
  have hD : va_D A [(h0, .inr (8, [.ref w0, .ref w1, .ref w2, .int 0, .ref w3, .ref w4, .ref w5, .int s7, .int s8]))] := hD
  have hP9 := hP.sub (ws' := [(h0, .inr (8, [.ref w0, .ref w1, .ref w2, .int 0, .ref w3, .ref w4, .ref w5, .int s7, .int s8]))]) [0] rfl
  have hD9 := hD.sub (ws' := [(h0, .inr (8, [.ref w0, .ref w1, .ref w2, .int 0, .ref w3, .ref w4, .ref w5, .int s7, .int s8]))]) [0] (by decide) rfl
  have hK9 := hK.sub (tys' := []) [] rfl
  exact W.vret hx hb hr (fun t ht hW => ⟨⟨((fun _ => 0), (fun _ => (dC 0)), (fun _ => (fun _ => 0)), (fun _ => (fun _ => none))), rfl, trivial, by rw [ht]; exact hP9, hD9, va_K.moved hW.alike hK9⟩, hS.F ht⟩) hS.2.2 dX8_endBindings_5

set_option maxHeartbeats 4000000 in
set_option maxRecDepth 100000 in
theorem c_X2_clear (l : Launch) (dC : Nat → ClassId) (dI : Nat → Nat → Nat) (h0 : Nat) (a0 : Int32) (a1 : Int32) (a2 : Int32) (a3 : Int32) (a4 : Int32) (sz : Nat)  : Met l yX2_clear (.code yX2_clear cX2_clear 1 none :: gw) ({ frames := 0, cells := 0, slots := 0, locals := 0 }) (va_Pc [.ref h0] (fun U => U.heap.size = sz ∧ va_P (dC, dI) vwCl [(h0, .inr (2, [.int a0, .int a1, .int a2, .int a3, .int a4]))] U.heap ∧ va_K (dC, dI) vwCl [] U ∧ va_D (fun _ => True) [(h0, .inr (2, [.int a0, .int a1, .int a2, .int a3, .int a4]))] ∧ nx U)) (va_Qv (fun (u : wS) => True) (fun u t => va_P (dC, dI) vwCl [(h0, .inr (2, [.int (-1), .int (-1), .int (-1), .int 0, .int 0]))] t.heap ∧ va_D (va_A [(h0, .inr (2, [.int a0, .int a1, .int a2, .int a3, .int a4]))] sz) [(h0, .inr (2, [.int (-1), .int (-1), .int (-1), .int 0, .int 0]))] ∧ va_K (dC, dI) vwCl [] t) (va_A [(h0, .inr (2, [.int a0, .int a1, .int a2, .int a3, .int a4]))] sz)) 0 0 (va_A [(h0, .inr (2, [.int a0, .int a1, .int a2, .int a3, .int a4]))] sz) := by
  refine Met.ofW (cc := cX2_clear) (maxL := 1) (ret := none) (by decide) rfl ?_
  intro p e s m args below meth c s₁ B hml hv
  obtain ⟨rfl, hsz, hP, hK, hD0, hN⟩ := hv
  have hx := B.exec
  have hb := B.bytes
  have hr := B.returns
  have hts := atoms_spec (ws := .code yX2_clear cX2_clear 1 none :: gw) B.pre
  have hg : ∀ w ∈ gw, w.before _ s = true := fun w h => hts w (List.mem_cons_of_mem _ h)
  have hown : s.vm.findClass RX2 = some m.cls := findClass_of_methodNamed B.named
  have hlocks := B.notSynchronized
  subst hsz
  have hD := hD0.self (sz := s.heap.size)
  generalize hAe : va_A [(h0, .inr (2, [.int a0, .int a1, .int a2, .int a3, .int a4]))] s.heap.size = A at hD ⊢
  have hA : ∀ q : Nat, s.heap.size ≤ q → A q := fun q h => by rw [← hAe]; exact Or.inr h
  have hS : va_S A s.heap s.heap [] := va_S.rf
  have hP : va_P (dC, dI) vwCl [(h0, .inr (2, [.int a0, .int a1, .int a2, .int a3, .int a4]))] s.heap := hP
  have hl := lv_entry ([.ref h0]) (n := 1) (Nat.le_of_ble_eq_true rfl)
  rw [lg_entry_eq]
  generalize (lg_sl ([.ref h0]) ++ List.replicate (1 - (lg_sl ([.ref h0])).length) Slot.unset).toArray = ls at hl ⊢
  have hl : lv_has ls 1 [(0, .ref h0)] := hl
  refine lv_aload_n hx hb dX2_clear_0 rfl (lv_at hl 0 rfl) ?_
  refine lv_iconst (v := -1) hx hb dX2_clear_1 (by decide) ?_
  refine va_put (D := (dC, dI)) (ci := 2) (v := .int (-1)) (ty := .int) (C := RX2) (T := TX2) (N := 5) hx hb hg gb_2 tyX2 tyX2_ok nmX2 hown hK hP hD hS 0 rfl rfl 0 (by decide) (hg _ gm_fieldLink_RX2_9_ErrandGuild_Fault_kind_I_) (fun _ h9 => h9) rfl (by decide +kernel) rfl rfl (Nat.le_of_ble_eq_true rfl) dX2_clear_2 (fun H locs hP hD hS => ?_)
  have hP : va_P (dC, dI) vwCl [(h0, .inr (2, [.int (-1), .int a1, .int a2, .int a3, .int a4]))] H := hP
  have hD : va_D A [(h0, .inr (2, [.int (-1), .int a1, .int a2, .int a3, .int a4]))] := hD
  refine lv_aload_n hx hb dX2_clear_5 rfl (lv_at hl 0 rfl) ?_
  refine lv_iconst (v := -1) hx hb dX2_clear_6 (by decide) ?_
  refine va_put (D := (dC, dI)) (ci := 2) (v := .int (-1)) (ty := .int) (C := RX2) (T := TX2) (N := 5) hx hb hg gb_2 tyX2 tyX2_ok nmX2 hown hK hP hD hS 0 rfl rfl 1 (by decide) (hg _ gm_fieldLink_RX2_15_ErrandGuild_Fault_step_I_) (fun _ h9 => h9) rfl (by decide +kernel) rfl rfl (Nat.le_of_ble_eq_true rfl) dX2_clear_7 (fun H locs hP hD hS => ?_)
  have hP : va_P (dC, dI) vwCl [(h0, .inr (2, [.int (-1), .int (-1), .int a2, .int a3, .int a4]))] H := hP
  have hD : va_D A [(h0, .inr (2, [.int (-1), .int (-1), .int a2, .int a3, .int a4]))] := hD
  refine lv_aload_n hx hb dX2_clear_10 rfl (lv_at hl 0 rfl) ?_
  refine lv_iconst (v := -1) hx hb dX2_clear_11 (by decide) ?_
  refine va_put (D := (dC, dI)) (ci := 2) (v := .int (-1)) (ty := .int) (C := RX2) (T := TX2) (N := 5) hx hb hg gb_2 tyX2 tyX2_ok nmX2 hown hK hP hD hS 0 rfl rfl 2 (by decide) (hg _ gm_fieldLink_RX2_18_ErrandGuild_Fault_cause_I_) (fun _ h9 => h9) rfl (by decide +kernel) rfl rfl (Nat.le_of_ble_eq_true rfl) dX2_clear_12 (fun H locs hP hD hS => ?_)
  have hP : va_P (dC, dI) vwCl [(h0, .inr (2, [.int (-1), .int (-1), .int (-1), .int a3, .int a4]))] H := hP
  have hD : va_D A [(h0, .inr (2, [.int (-1), .int (-1), .int (-1), .int a3, .int a4]))] := hD
  refine lv_aload_n hx hb dX2_clear_15 rfl (lv_at hl 0 rfl) ?_
  refine lv_iconst (v := 0) hx hb dX2_clear_16 (by decide) ?_
  refine va_put (D := (dC, dI)) (ci := 2) (v := .int 0) (ty := .int) (C := RX2) (T := TX2) (N := 5) hx hb hg gb_2 tyX2 tyX2_ok nmX2 hown hK hP hD hS 0 rfl rfl 3 (by decide) (hg _ gm_fieldLink_RX2_21_ErrandGuild_Fault_suppressed_I_) (fun _ h9 => h9) rfl (by decide +kernel) rfl rfl (Nat.le_of_ble_eq_true rfl) dX2_clear_17 (fun H locs hP hD hS => ?_)
  have hP : va_P (dC, dI) vwCl [(h0, .inr (2, [.int (-1), .int (-1), .int (-1), .int 0, .int a4]))] H := hP
  have hD : va_D A [(h0, .inr (2, [.int (-1), .int (-1), .int (-1), .int 0, .int a4]))] := hD
  refine lv_aload_n hx hb dX2_clear_20 rfl (lv_at hl 0 rfl) ?_
  refine lv_iconst (v := 0) hx hb dX2_clear_21 (by decide) ?_
  refine va_put (D := (dC, dI)) (ci := 2) (v := .int 0) (ty := .boolean) (C := RX2) (T := TX2) (N := 5) hx hb hg gb_2 tyX2 tyX2_ok nmX2 hown hK hP hD hS 0 rfl rfl 4 (by decide) (hg _ gm_fieldLink_RX2_24_ErrandGuild_Fault_uncaught_Z_) (fun _ h9 => h9) rfl (by decide +kernel) rfl rfl (Nat.le_of_ble_eq_true rfl) dX2_clear_22 (fun H locs hP hD hS => ?_)
  have hP : va_P (dC, dI) vwCl [(h0, .inr (2, [.int (-1), .int (-1), .int (-1), .int 0, .int 0]))] H := hP
  have hD : va_D A [(h0, .inr (2, [.int (-1), .int (-1), .int (-1), .int 0, .int 0]))] := hD
  have hP9 := hP.sub (ws' := [(h0, .inr (2, [.int (-1), .int (-1), .int (-1), .int 0, .int 0]))]) [0] rfl
  have hD9 := hD.sub (ws' := [(h0, .inr (2, [.int (-1), .int (-1), .int (-1), .int 0, .int 0]))]) [0] (by decide) rfl
  have hK9 := hK.sub (tys' := []) [] rfl
  exact W.vret hx hb hr (fun t ht hW => ⟨⟨((fun _ => 0), (fun _ => (dC 0)), (fun _ => (fun _ => 0)), (fun _ => (fun _ => none))), rfl, trivial, by rw [ht]; exact hP9, hD9, va_K.moved hW.alike hK9⟩, hS.F ht⟩) hS.2.2 dX2_clear_25

set_option maxHeartbeats 4000000 in
set_option maxRecDepth 100000 in
theorem c_X3_effectAt (l : Launch) (dC : Nat → ClassId) (dI : Nat → Nat → Nat) (h0 : Nat) (w0 : Nat) (w1 : Nat) (w2 : Nat) (k1 : ClassId) (f1 : Nat → Int32) (v1 : Int32) (sz : Nat)  : Met l yX3_effectAt (.code yX3_effectAt cX3_effectAt 2 (some .int) :: gw) ({ frames := 0, cells := 0, slots := 0, locals := 0 }) (va_Pc [.ref h0, .int v1] (fun U => U.heap.size = sz ∧ va_P (dC, dI) vwCl [(h0, .inr (3, [.ref w0, .ref w1, .ref w2])), (w1, .inl (k1, 17, .inl f1))] U.heap ∧ va_K (dC, dI) vwCl [(k1, .int)] U ∧ va_D (fun _ => True) [(h0, .inr (3, [.ref w0, .ref w1, .ref w2])), (w1, .inl (k1, 17, .inl f1))] ∧ nx U)) (va_Qi (fun (r : Int32) (u : Unit) => r = hAt f1 v1) (fun _ t => va_P (dC, dI) vwCl [(h0, .inr (3, [.ref w0, .ref w1, .ref w2])), (w1, .inl (k1, 17, .inl f1))] t.heap ∧ va_D (va_A [(h0, .inr (3, [.ref w0, .ref w1, .ref w2])), (w1, .inl (k1, 17, .inl f1))] sz) [(h0, .inr (3, [.ref w0, .ref w1, .ref w2])), (w1, .inl (k1, 17, .inl f1))]) (va_A [(h0, .inr (3, [.ref w0, .ref w1, .ref w2])), (w1, .inl (k1, 17, .inl f1))] sz)) 0 0 (va_A [(h0, .inr (3, [.ref w0, .ref w1, .ref w2])), (w1, .inl (k1, 17, .inl f1))] sz) := by
  refine Met.ofW (cc := cX3_effectAt) (maxL := 2) (ret := (some .int)) (by decide) rfl ?_
  intro p e s m args below meth c s₁ B hml hv
  obtain ⟨rfl, hsz, hP, hK, hD0, hN⟩ := hv
  have hx := B.exec
  have hb := B.bytes
  have hr := B.returns
  have hts := atoms_spec (ws := .code yX3_effectAt cX3_effectAt 2 (some .int) :: gw) B.pre
  have hg : ∀ w ∈ gw, w.before _ s = true := fun w h => hts w (List.mem_cons_of_mem _ h)
  have hown : s.vm.findClass RX3 = some m.cls := findClass_of_methodNamed B.named
  have hlocks := B.notSynchronized
  subst hsz
  have hD := hD0.self (sz := s.heap.size)
  generalize hAe : va_A [(h0, .inr (3, [.ref w0, .ref w1, .ref w2])), (w1, .inl (k1, 17, .inl f1))] s.heap.size = A at hD ⊢
  have hA : ∀ q : Nat, s.heap.size ≤ q → A q := fun q h => by rw [← hAe]; exact Or.inr h
  have hS : va_S A s.heap s.heap [] := va_S.rf
  have hP : va_P (dC, dI) vwCl [(h0, .inr (3, [.ref w0, .ref w1, .ref w2])), (w1, .inl (k1, 17, .inl f1))] s.heap := hP
  have hl := lv_entry ([.ref h0, .int v1]) (n := 2) (Nat.le_of_ble_eq_true rfl)
  rw [lg_entry_eq]
  generalize (lg_sl ([.ref h0, .int v1]) ++ List.replicate (2 - (lg_sl ([.ref h0, .int v1])).length) Slot.unset).toArray = ls at hl ⊢
  have hl : lv_has ls 2 [(0, .ref h0), (1, .int v1)] := hl
  refine lv_iload_n hx hb dX3_effectAt_0 rfl (lv_at hl 1 rfl) ?_
  refine lv_if_lt (tgt := 19) hx hb dX3_effectAt_1 (by decide) (fun c_1 => ?_) (fun c_1 => ?_)
  · simp only [i_lt, i_le, i_eq, ti_0] at c_1
    refine lv_iconst (v := 0) hx hb dX3_effectAt_19 (by decide) ?_
    have hP9 := hP.sub (ws' := [(h0, .inr (3, [.ref w0, .ref w1, .ref w2])), (w1, .inl (k1, 17, .inl f1))]) [0, 1] rfl
    have hD9 := hD.sub (ws' := [(h0, .inr (3, [.ref w0, .ref w1, .ref w2])), (w1, .inl (k1, 17, .inl f1))]) [0, 1] (by decide) rfl
    exact W.iret (v := 0) hx hb hr (fun t ht hW => ⟨⟨0, (), rfl, (by show (0 : Int32) = hAt f1 v1; (subst_vars; first | rfl | ((try simp only [aN, aF, st8, st17, wrOr, gvAt, bdOr, rbF, bnN, bnM, bnF, frN, ctN, caN, caB, caA, hAt, cAt, nb1, nb0]); first | rfl | (rw [if_pos (by omega)]; done) | (rw [if_neg (by omega)]; done) | (rw [if_pos (by omega)]; rfl) | (rw [if_neg (by omega)]; rfl)))), by rw [ht]; exact hP9, hD9⟩, hS.F ht⟩) hS.2.2 dX3_effectAt_20
  · simp only [i_lt, i_le, i_eq, ti_0] at c_1
    refine lv_iload_n hx hb dX3_effectAt_4 rfl (lv_at hl 1 rfl) ?_
    refine lv_bipush (v := 17) hx hb dX3_effectAt_5 (by decide) ?_
    refine lv_icmp_ge (tgt := 19) hx hb dX3_effectAt_7 (by decide) (fun c_2 => ?_) (fun c_2 => ?_)
    · simp only [i_lt, i_le, i_eq, ti_17] at c_2
      refine lv_iconst (v := 0) hx hb dX3_effectAt_19 (by decide) ?_
      have hP9 := hP.sub (ws' := [(h0, .inr (3, [.ref w0, .ref w1, .ref w2])), (w1, .inl (k1, 17, .inl f1))]) [0, 1] rfl
      have hD9 := hD.sub (ws' := [(h0, .inr (3, [.ref w0, .ref w1, .ref w2])), (w1, .inl (k1, 17, .inl f1))]) [0, 1] (by decide) rfl
      exact W.iret (v := 0) hx hb hr (fun t ht hW => ⟨⟨0, (), rfl, (by show (0 : Int32) = hAt f1 v1; (subst_vars; first | rfl | ((try simp only [aN, aF, st8, st17, wrOr, gvAt, bdOr, rbF, bnN, bnM, bnF, frN, ctN, caN, caB, caA, hAt, cAt, nb1, nb0]); first | rfl | (rw [if_pos (by omega)]; done) | (rw [if_neg (by omega)]; done) | (rw [if_pos (by omega)]; rfl) | (rw [if_neg (by omega)]; rfl)))), by rw [ht]; exact hP9, hD9⟩, hS.F ht⟩) hS.2.2 dX3_effectAt_20
    · simp only [i_lt, i_le, i_eq, ti_17] at c_2
      refine lv_aload_n hx hb dX3_effectAt_10 rfl (lv_at hl 0 rfl) ?_
      refine va_get (D := (dC, dI)) (ci := 3) (v := .ref w1) (C := RX3) (T := TX3) (N := 3) hx hb hg gb_3 hown hK hP 0 rfl rfl 1 (by decide) (hg _ gm_fieldLink_RX3_15_ErrandGuild_Handlers_effects_AI_) (fun _ h9 => h9) rfl dX3_effectAt_11 ?_
      refine lv_iload_n hx hb dX3_effectAt_14 rfl (lv_at hl 1 rfl) ?_
      refine va_iald hx hb hK hP 1 0 rfl rfl (vp_in_iff.mpr ⟨by omega, by omega⟩) dX3_effectAt_15 ?_
      refine lv_topi (fun z_3 ez_3 => ?_)
      refine lv_goto (tgt := 20) hx hb dX3_effectAt_16 (by decide) ?_
      have hP9 := hP.sub (ws' := [(h0, .inr (3, [.ref w0, .ref w1, .ref w2])), (w1, .inl (k1, 17, .inl f1))]) [0, 1] rfl
      have hD9 := hD.sub (ws' := [(h0, .inr (3, [.ref w0, .ref w1, .ref w2])), (w1, .inl (k1, 17, .inl f1))]) [0, 1] (by decide) rfl
      exact W.iret (v := z_3) hx hb hr (fun t ht hW => ⟨⟨z_3, (), rfl, (by show (z_3 : Int32) = hAt f1 v1; (subst_vars; first | rfl | ((try simp only [aN, aF, st8, st17, wrOr, gvAt, bdOr, rbF, bnN, bnM, bnF, frN, ctN, caN, caB, caA, hAt, cAt, nb1, nb0]); first | rfl | (rw [if_pos (by omega)]; done) | (rw [if_neg (by omega)]; done) | (rw [if_pos (by omega)]; rfl) | (rw [if_neg (by omega)]; rfl)))), by rw [ht]; exact hP9, hD9⟩, hS.F ht⟩) hS.2.2 dX3_effectAt_20

set_option maxHeartbeats 4000000 in
set_option maxRecDepth 100000 in
theorem c_X8_innermostOf (l : Launch) (dC : Nat → ClassId) (dI : Nat → Nat → Nat) (h0 : Nat) (w0 : Nat) (w1 : Nat) (w2 : Nat) (w3 : Nat) (w4 : Nat) (w5 : Nat) (k0 : ClassId) (f0 : Nat → Int32) (s3 : Int32) (s7 : Int32) (s8 : Int32) (v1 : Int32) (sz : Nat)  : Met l yX8_innermostOf (.code yX8_innermostOf cX8_innermostOf 3 (some .int) :: gw) ({ frames := 0, cells := 0, slots := 0, locals := 0 }) (va_Pc [.ref h0, .int v1] (fun U => U.heap.size = sz ∧ va_P (dC, dI) vwCl [(h0, .inr (8, [.ref w0, .ref w1, .ref w2, .int s3, .ref w3, .ref w4, .ref w5, .int s7, .int s8])), (w0, .inl (k0, 24, .inl f0))] U.heap ∧ va_K (dC, dI) vwCl [(k0, .int)] U ∧ va_D (fun _ => True) [(h0, .inr (8, [.ref w0, .ref w1, .ref w2, .int s3, .ref w3, .ref w4, .ref w5, .int s7, .int s8])), (w0, .inl (k0, 24, .inl f0))] ∧ nx U)) (va_Qi (fun (r : Int32) (u : Unit) => r.toInt = inn s3 f0 v1 24 ∧ -1 ≤ r.toInt ∧ r.toInt < 24) (fun _ t => va_P (dC, dI) vwCl [(h0, .inr (8, [.ref w0, .ref w1, .ref w2, .int s3, .ref w3, .ref w4, .ref w5, .int s7, .int s8])), (w0, .inl (k0, 24, .inl f0))] t.heap ∧ va_D (va_A [(h0, .inr (8, [.ref w0, .ref w1, .ref w2, .int s3, .ref w3, .ref w4, .ref w5, .int s7, .int s8])), (w0, .inl (k0, 24, .inl f0))] sz) [(h0, .inr (8, [.ref w0, .ref w1, .ref w2, .int s3, .ref w3, .ref w4, .ref w5, .int s7, .int s8])), (w0, .inl (k0, 24, .inl f0))]) (va_A [(h0, .inr (8, [.ref w0, .ref w1, .ref w2, .int s3, .ref w3, .ref w4, .ref w5, .int s7, .int s8])), (w0, .inl (k0, 24, .inl f0))] sz)) 0 0 (va_A [(h0, .inr (8, [.ref w0, .ref w1, .ref w2, .int s3, .ref w3, .ref w4, .ref w5, .int s7, .int s8])), (w0, .inl (k0, 24, .inl f0))] sz) := by
  refine Met.ofW (cc := cX8_innermostOf) (maxL := 3) (ret := (some .int)) (by decide) rfl ?_
  intro p e s m args below meth c s₁ B hml hv
  obtain ⟨rfl, hsz, hP, hK, hD0, hN⟩ := hv
  have hx := B.exec
  have hb := B.bytes
  have hr := B.returns
  have hts := atoms_spec (ws := .code yX8_innermostOf cX8_innermostOf 3 (some .int) :: gw) B.pre
  have hg : ∀ w ∈ gw, w.before _ s = true := fun w h => hts w (List.mem_cons_of_mem _ h)
  have hown : s.vm.findClass RX8 = some m.cls := findClass_of_methodNamed B.named
  have hlocks := B.notSynchronized
  subst hsz
  have hD := hD0.self (sz := s.heap.size)
  generalize hAe : va_A [(h0, .inr (8, [.ref w0, .ref w1, .ref w2, .int s3, .ref w3, .ref w4, .ref w5, .int s7, .int s8])), (w0, .inl (k0, 24, .inl f0))] s.heap.size = A at hD ⊢
  have hA : ∀ q : Nat, s.heap.size ≤ q → A q := fun q h => by rw [← hAe]; exact Or.inr h
  have hS : va_S A s.heap s.heap [] := va_S.rf
  have hP : va_P (dC, dI) vwCl [(h0, .inr (8, [.ref w0, .ref w1, .ref w2, .int s3, .ref w3, .ref w4, .ref w5, .int s7, .int s8])), (w0, .inl (k0, 24, .inl f0))] s.heap := hP
  have hl := lv_entry ([.ref h0, .int v1]) (n := 3) (Nat.le_of_ble_eq_true rfl)
  rw [lg_entry_eq]
  generalize (lg_sl ([.ref h0, .int v1]) ++ List.replicate (3 - (lg_sl ([.ref h0, .int v1])).length) Slot.unset).toArray = ls at hl ⊢
  have hl : lv_has ls 3 [(0, .ref h0), (1, .int v1)] := hl
  refine lv_bipush (v := 23) hx hb dX8_innermostOf_0 (by decide) ?_
  refine lv_istore_n (lv' := [(2, .int 23), (0, .ref h0), (1, .int v1)]) hx hb dX8_innermostOf_2 rfl hl (by decide) rfl (fun ls hl => ?_)
  have L3 : ∀ (fuel : Nat) (x_1 : Int32)  (H : Heap) (locs : List Loc) (ls : Array Slot), (x_1.toInt + 1).toNat < fuel → (-1 ≤ x_1.toInt ∧ x_1.toInt ≤ 23) → (inn s3 f0 v1 (x_1.toInt + 1).toNat = inn s3 f0 v1 24) → va_P (dC, dI) vwCl [(h0, .inr (8, [.ref w0, .ref w1, .ref w2, .int s3, .ref w3, .ref w4, .ref w5, .int s7, .int s8])), (w0, .inl (k0, 24, .inl f0))] H → va_D A [(h0, .inr (8, [.ref w0, .ref w1, .ref w2, .int s3, .ref w3, .ref w4, .ref w5, .int s7, .int s8])), (w0, .inl (k0, 24, .inl f0))] → va_S A s.heap H locs → lv_has ls 3 [(2, .int x_1), (0, .ref h0), (1, .int v1)] → W p l e (headSpec (.code yX8_innermostOf cX8_innermostOf 3 (some .int) :: gw) ({ frames := 0, cells := 0, slots := 0, locals := 0 })).room s m ([.ref h0, .int v1] : List Value).toArray below meth c H locs 0 0 (MQ below (va_Qi (fun (r : Int32) (u : Unit) => r.toInt = inn s3 f0 v1 24 ∧ -1 ≤ r.toInt ∧ r.toInt < 24) (fun _ t => va_P (dC, dI) vwCl [(h0, .inr (8, [.ref w0, .ref w1, .ref w2, .int s3, .ref w3, .ref w4, .ref w5, .int s7, .int s8])), (w0, .inl (k0, 24, .inl f0))] t.heap ∧ va_D A [(h0, .inr (8, [.ref w0, .ref w1, .ref w2, .int s3, .ref w3, .ref w4, .ref w5, .int s7, .int s8])), (w0, .inl (k0, 24, .inl f0))]) A) ([.ref h0, .int v1] : List Value).toArray s 0 0 A) (F0 m 3 ls []) := by
    intro fuel
    induction fuel with
    | zero => intro x_1 H locs ls hm; exact absurd hm (Nat.not_lt_zero _)
    | succ fuel_3 ih_2 =>
      intro x_1 H locs ls hm_4 v_5 v_6 hP hD hS hl
      refine lv_iload_n hx hb dX8_innermostOf_3 rfl (lv_at hl 0 rfl) ?_
      refine lv_if_lt (tgt := 33) hx hb dX8_innermostOf_4 (by decide) (fun c_7 => ?_) (fun c_7 => ?_)
      · simp only [i_lt, i_le, i_eq, ti_0] at c_7
        refine lv_iconst (v := -1) hx hb dX8_innermostOf_33 (by decide) ?_
        have hP9 := hP.sub (ws' := [(h0, .inr (8, [.ref w0, .ref w1, .ref w2, .int s3, .ref w3, .ref w4, .ref w5, .int s7, .int s8])), (w0, .inl (k0, 24, .inl f0))]) [0, 1] rfl
        have hD9 := hD.sub (ws' := [(h0, .inr (8, [.ref w0, .ref w1, .ref w2, .int s3, .ref w3, .ref w4, .ref w5, .int s7, .int s8])), (w0, .inl (k0, 24, .inl f0))]) [0, 1] (by decide) rfl
        exact W.iret (v := -1) hx hb hr (fun t ht hW => ⟨⟨-1, (), rfl, (by show (-1 : Int32).toInt = inn s3 f0 v1 24 ∧ _; have hX := v_6; rw [show (x_1.toInt + 1).toNat = 0 by omega, inn_0] at hX; rw [← hX]; have t_ := ti_m1; omega), by rw [ht]; exact hP9, hD9⟩, hS.F ht⟩) hS.2.2 dX8_innermostOf_34
      · simp only [i_lt, i_le, i_eq, ti_0] at c_7
        refine lv_iload_n hx hb dX8_innermostOf_7 rfl (lv_at hl 0 rfl) ?_
        refine lv_aload_n hx hb dX8_innermostOf_8 rfl (lv_at hl 1 rfl) ?_
        refine va_get (D := (dC, dI)) (ci := 8) (v := .int s3) (C := RX8) (T := TX8) (N := 9) hx hb hg gb_8 hown hK hP 0 rfl rfl 3 (by decide) (hg _ gm_fieldLink_RX8_30_ErrandGuild_Scopes_bindings_I_) (fun _ h9 => h9) rfl dX8_innermostOf_9 ?_
        refine lv_icmp_ge (tgt := 27) hx hb dX8_innermostOf_12 (by decide) (fun c_8 => ?_) (fun c_8 => ?_)
        · simp only [i_lt, i_le, i_eq] at c_8
          obtain ⟨y_9, ey_9⟩ : ∃ q : Int32, q = x_1 + (-1) := ⟨_, rfl⟩
          refine lv_iinc (v := y_9) (lv' := [(2, .int y_9), (0, .ref h0), (1, .int v1)]) hx hb dX8_innermostOf_27 hl (k := 0) rfl (by rw [ey_9]; rfl) (by decide) rfl (fun ls hl => ?_)
          have ty_9 : y_9.toInt = x_1.toInt + (-1) := ar_add rfl ti_m1 ey_9 (by omega)
          refine lv_goto (tgt := 3) hx hb dX8_innermostOf_30 (by decide) ?_
          exact ih_2 y_9  H locs ls (by omega) (by omega) (by have hX := v_6; have c1_ := cl_eq x_1; rw [show (x_1.toInt + 1).toNat = Int32.toNatClampNeg x_1 + 1 by omega, inn_s, if_neg (by omega)] at hX; rw [show (y_9.toInt + 1).toNat = Int32.toNatClampNeg x_1 by omega]; exact hX) hP hD hS (lv_sub hl [0, 1, 2] rfl)
        · simp only [i_lt, i_le, i_eq] at c_8
          refine lv_aload_n hx hb dX8_innermostOf_15 rfl (lv_at hl 1 rfl) ?_
          refine va_get (D := (dC, dI)) (ci := 8) (v := .ref w0) (C := RX8) (T := TX8) (N := 9) hx hb hg gb_8 hown hK hP 0 rfl rfl 0 (by decide) (hg _ gm_fieldLink_RX8_9_ErrandGuild_Scopes_bindingSlots_AI_) (fun _ h9 => h9) rfl dX8_innermostOf_16 ?_
          refine lv_iload_n hx hb dX8_innermostOf_19 rfl (lv_at hl 0 rfl) ?_
          refine va_iald hx hb hK hP 1 0 rfl rfl (vp_in_iff.mpr ⟨by omega, by omega⟩) dX8_innermostOf_20 ?_
          refine lv_topi (fun z_10 ez_10 => ?_)
          refine lv_iload_n hx hb dX8_innermostOf_21 rfl (lv_at hl 2 rfl) ?_
          refine lv_icmp_ne (tgt := 27) hx hb dX8_innermostOf_22 (by decide) (fun c_11 => ?_) (fun c_11 => ?_)
          · simp only [i_lt, i_le, i_eq] at c_11
            obtain ⟨y_12, ey_12⟩ : ∃ q : Int32, q = x_1 + (-1) := ⟨_, rfl⟩
            refine lv_iinc (v := y_12) (lv' := [(2, .int y_12), (0, .ref h0), (1, .int v1)]) hx hb dX8_innermostOf_27 hl (k := 0) rfl (by rw [ey_12]; rfl) (by decide) rfl (fun ls hl => ?_)
            have ty_12 : y_12.toInt = x_1.toInt + (-1) := ar_add rfl ti_m1 ey_12 (by omega)
            refine lv_goto (tgt := 3) hx hb dX8_innermostOf_30 (by decide) ?_
            exact ih_2 y_12  H locs ls (by omega) (by omega) (by have qz_10 := congrArg Int32.toInt ez_10; have hX := v_6; have c1_ := cl_eq x_1; rw [show (x_1.toInt + 1).toNat = Int32.toNatClampNeg x_1 + 1 by omega, inn_s, if_neg (by omega)] at hX; rw [show (y_12.toInt + 1).toNat = Int32.toNatClampNeg x_1 by omega]; exact hX) hP hD hS (lv_sub hl [0, 1, 2] rfl)
          · simp only [i_lt, i_le, i_eq] at c_11
            refine lv_iload_n hx hb dX8_innermostOf_25 rfl (lv_at hl 0 rfl) ?_
            have hP9 := hP.sub (ws' := [(h0, .inr (8, [.ref w0, .ref w1, .ref w2, .int s3, .ref w3, .ref w4, .ref w5, .int s7, .int s8])), (w0, .inl (k0, 24, .inl f0))]) [0, 1] rfl
            have hD9 := hD.sub (ws' := [(h0, .inr (8, [.ref w0, .ref w1, .ref w2, .int s3, .ref w3, .ref w4, .ref w5, .int s7, .int s8])), (w0, .inl (k0, 24, .inl f0))]) [0, 1] (by decide) rfl
            exact W.iret (v := x_1) hx hb hr (fun t ht hW => ⟨⟨x_1, (), rfl, (by have qz_10 := congrArg Int32.toInt ez_10; show x_1.toInt = inn s3 f0 v1 24 ∧ _; have hX := v_6; have c1_ := cl_eq x_1; rw [show (x_1.toInt + 1).toNat = Int32.toNatClampNeg x_1 + 1 by omega, inn_s, if_pos (by omega)] at hX; rw [← hX]; omega), by rw [ht]; exact hP9, hD9⟩, hS.F ht⟩) hS.2.2 dX8_innermostOf_26
  exact L3 _ (23 : Int32)  _ _ _ (Nat.lt_succ_self _) (by have t_0 := ti_23; omega) (by rw [show ((23 : Int32).toInt + 1).toNat = 24 by decide]) hP hD hS (lv_sub hl [0, 1, 2] rfl)

set_option maxHeartbeats 4000000 in
set_option maxRecDepth 100000 in
theorem c_X8_boundOr (l : Launch) (dC : Nat → ClassId) (dI : Nat → Nat → Nat) (h0 : Nat) (w0 : Nat) (w1 : Nat) (w2 : Nat) (w3 : Nat) (w4 : Nat) (w5 : Nat) (k0 : ClassId) (k1 : ClassId) (f0 : Nat → Int32) (f1 : Nat → Int32) (s3 : Int32) (s7 : Int32) (s8 : Int32) (v1 : Int32) (v2 : Int32) (sz : Nat)  : Met l yX8_boundOr (.code yX8_boundOr cX8_boundOr 4 (some .int) :: gw) ({ frames := 1, cells := 0, slots := 0, locals := 22 }) (va_Pc [.ref h0, .int v1, .int v2] (fun U => U.heap.size = sz ∧ va_P (dC, dI) vwCl [(h0, .inr (8, [.ref w0, .ref w1, .ref w2, .int s3, .ref w3, .ref w4, .ref w5, .int s7, .int s8])), (w0, .inl (k0, 24, .inl f0)), (w1, .inl (k1, 24, .inl f1))] U.heap ∧ va_K (dC, dI) vwCl [(k0, .int), (k1, .int)] U ∧ va_D (fun _ => True) [(h0, .inr (8, [.ref w0, .ref w1, .ref w2, .int s3, .ref w3, .ref w4, .ref w5, .int s7, .int s8])), (w0, .inl (k0, 24, .inl f0)), (w1, .inl (k1, 24, .inl f1))] ∧ nx U)) (va_Qi (fun (r : Int32) (u : Unit) => r = bdOr s3 f0 f1 v1 v2) (fun _ t => va_P (dC, dI) vwCl [(h0, .inr (8, [.ref w0, .ref w1, .ref w2, .int s3, .ref w3, .ref w4, .ref w5, .int s7, .int s8])), (w0, .inl (k0, 24, .inl f0)), (w1, .inl (k1, 24, .inl f1))] t.heap ∧ va_D (va_A [(h0, .inr (8, [.ref w0, .ref w1, .ref w2, .int s3, .ref w3, .ref w4, .ref w5, .int s7, .int s8])), (w0, .inl (k0, 24, .inl f0)), (w1, .inl (k1, 24, .inl f1))] sz) [(h0, .inr (8, [.ref w0, .ref w1, .ref w2, .int s3, .ref w3, .ref w4, .ref w5, .int s7, .int s8])), (w0, .inl (k0, 24, .inl f0)), (w1, .inl (k1, 24, .inl f1))]) (va_A [(h0, .inr (8, [.ref w0, .ref w1, .ref w2, .int s3, .ref w3, .ref w4, .ref w5, .int s7, .int s8])), (w0, .inl (k0, 24, .inl f0)), (w1, .inl (k1, 24, .inl f1))] sz)) 0 0 (va_A [(h0, .inr (8, [.ref w0, .ref w1, .ref w2, .int s3, .ref w3, .ref w4, .ref w5, .int s7, .int s8])), (w0, .inl (k0, 24, .inl f0)), (w1, .inl (k1, 24, .inl f1))] sz) := by
  refine Met.ofW (cc := cX8_boundOr) (maxL := 4) (ret := (some .int)) (by decide) rfl ?_
  intro p e s m args below meth c s₁ B hml hv
  obtain ⟨rfl, hsz, hP, hK, hD0, hN⟩ := hv
  have hx := B.exec
  have hb := B.bytes
  have hr := B.returns
  have hts := atoms_spec (ws := .code yX8_boundOr cX8_boundOr 4 (some .int) :: gw) B.pre
  have hg : ∀ w ∈ gw, w.before _ s = true := fun w h => hts w (List.mem_cons_of_mem _ h)
  have hown : s.vm.findClass RX8 = some m.cls := findClass_of_methodNamed B.named
  have hlocks := B.notSynchronized
  subst hsz
  have hD := hD0.self (sz := s.heap.size)
  generalize hAe : va_A [(h0, .inr (8, [.ref w0, .ref w1, .ref w2, .int s3, .ref w3, .ref w4, .ref w5, .int s7, .int s8])), (w0, .inl (k0, 24, .inl f0)), (w1, .inl (k1, 24, .inl f1))] s.heap.size = A at hD ⊢
  have hA : ∀ q : Nat, s.heap.size ≤ q → A q := fun q h => by rw [← hAe]; exact Or.inr h
  have hS : va_S A s.heap s.heap [] := va_S.rf
  have hP : va_P (dC, dI) vwCl [(h0, .inr (8, [.ref w0, .ref w1, .ref w2, .int s3, .ref w3, .ref w4, .ref w5, .int s7, .int s8])), (w0, .inl (k0, 24, .inl f0)), (w1, .inl (k1, 24, .inl f1))] s.heap := hP
  have hl := lv_entry ([.ref h0, .int v1, .int v2]) (n := 4) (Nat.le_of_ble_eq_true rfl)
  rw [lg_entry_eq]
  generalize (lg_sl ([.ref h0, .int v1, .int v2]) ++ List.replicate (4 - (lg_sl ([.ref h0, .int v1, .int v2])).length) Slot.unset).toArray = ls at hl ⊢
  have hl : lv_has ls 4 [(0, .ref h0), (1, .int v1), (2, .int v2)] := hl
  refine lv_aload_n hx hb dX8_boundOr_0 rfl (lv_at hl 0 rfl) ?_
  refine lv_iload_n hx hb dX8_boundOr_1 rfl (lv_at hl 1 rfl) ?_
  have hPc := hP.sub (ws' := [(h0, .inr (8, [.ref w0, .ref w1, .ref w2, .int s3, .ref w3, .ref w4, .ref w5, .int s7, .int s8])), (w0, .inl (k0, 24, .inl f0))]) [0, 1] rfl
  have hDc := hD.sub (ws' := [(h0, .inr (8, [.ref w0, .ref w1, .ref w2, .int s3, .ref w3, .ref w4, .ref w5, .int s7, .int s8])), (w0, .inl (k0, 24, .inl f0))]) [0, 1] (by decide) rfl
  have hKc := hK.sub (tys' := [(k0, .int)]) [0] rfl
  have hFc := va_free (wc := [(h0, .inr (8, [.ref w0, .ref w1, .ref w2, .int s3, .ref w3, .ref w4, .ref w5, .int s7, .int s8])), (w0, .inl (k0, 24, .inl f0))]) hD hS hA [0, 1] rfl
  refine va_calli (va_runV (As := [.int v1]) (rest := []) ⟨hx, hb, hml, hown, hg⟩ (c_X8_innermostOf l dC dI h0 w0 w1 w2 w3 w4 w5 k0 f0 s3 s7 s8 v1 s.heap.size ) (cwV 1 hg (gw_V gm_methodLink_RX8_40_yX8_innermostOf gm_instanceMethod_yX8_innermostOf gm_selects_RX8_yX8_innermostOf_yX8_innermostOf gm_initialized_RX8 gm_code_yX8_innermostOf_cX8_innermostOf_3_some_int_) rfl rfl rfl (by decide +kernel) ⟨Nat.le_of_ble_eq_true rfl, Nat.le_of_ble_eq_true rfl⟩) ⟨fun a U g mk q => by obtain ⟨q0, q1, qP, qK, qD, qN⟩ := q; exact ⟨q0, q1, qP, va_K.moved (u := U) (U := U.calling g mk a) (Vm.Alike.refl U.vm) qK, qD, nx_same (u := U) (U := U.calling g mk a) rfl qN⟩, va_recv hKc hPc (ci := 8) (q0 := 0) rfl rfl, fun U hU hW => ⟨rfl, by rw [hU], by rw [hU]; exact hPc, va_K.moved hW.alike hKc, hDc.weaken (fun _ _ _ _ => trivial), nx_warm hW hN⟩⟩ rfl rfl hl.1 rfl (lv_room (Nat.le_of_ble_eq_true rfl)) dX8_boundOr_2 ⟨Nat.le_of_ble_eq_true rfl, Nat.le_of_ble_eq_true rfl⟩) hS (fun q _ h => hFc q h) hFc (fun r_1 u_2 t H1 locs ht hvm hw hB hz1 hk1 hS => ?_)
  obtain ⟨hP1, hD1⟩ := hB
  rw [ht] at hP1
  obtain ⟨hP, hD⟩ := va_join (wr := [(w1, .inl (k1, 24, .inl f1))]) (w1 := [(h0, .inr (8, [.ref w0, .ref w1, .ref w2, .int s3, .ref w3, .ref w4, .ref w5, .int s7, .int s8])), (w0, .inl (k0, 24, .inl f0))]) hP hD [0, 1] [2] rfl rfl (by decide) (by decide +kernel) hk1 hFc hP1 hD1
  generalize H1 = H at hP hS ⊢
  have hP : va_P (dC, dI) vwCl [(w1, .inl (k1, 24, .inl f1)), (h0, .inr (8, [.ref w0, .ref w1, .ref w2, .int s3, .ref w3, .ref w4, .ref w5, .int s7, .int s8])), (w0, .inl (k0, 24, .inl f0))] H := hP
  have hD : va_D A [(w1, .inl (k1, 24, .inl f1)), (h0, .inr (8, [.ref w0, .ref w1, .ref w2, .int s3, .ref w3, .ref w4, .ref w5, .int s7, .int s8])), (w0, .inl (k0, 24, .inl f0))] := hD
  refine W.widen (k := 0) (n := 0) (Nat.le_of_ble_eq_true rfl) (Nat.le_of_ble_eq_true rfl) ?_
  have w_3 := hw
  try dsimp +instances only [c9n, c9f, c9T, c9G, c9K, c9F, q10F, q10n] at w_3
  refine lv_istore_n (lv' := [(3, .int r_1), (0, .ref h0), (1, .int v1), (2, .int v2)]) hx hb dX8_boundOr_5 rfl hl (by decide) rfl (fun ls hl => ?_)
  refine lv_iload_n hx hb dX8_boundOr_6 rfl (lv_at hl 0 rfl) ?_
  refine lv_if_lt (tgt := 25) hx hb dX8_boundOr_7 (by decide) (fun c_4 => ?_) (fun c_4 => ?_)
  · simp only [i_lt, i_le, i_eq, ti_0] at c_4
    refine lv_iload_n hx hb dX8_boundOr_25 rfl (lv_at hl 3 rfl) ?_
    have hP9 := hP.sub (ws' := [(h0, .inr (8, [.ref w0, .ref w1, .ref w2, .int s3, .ref w3, .ref w4, .ref w5, .int s7, .int s8])), (w0, .inl (k0, 24, .inl f0)), (w1, .inl (k1, 24, .inl f1))]) [1, 2, 0] rfl
    have hD9 := hD.sub (ws' := [(h0, .inr (8, [.ref w0, .ref w1, .ref w2, .int s3, .ref w3, .ref w4, .ref w5, .int s7, .int s8])), (w0, .inl (k0, 24, .inl f0)), (w1, .inl (k1, 24, .inl f1))]) [1, 2, 0] (by decide) rfl
    exact W.iret (v := v2) hx hb hr (fun t ht hW => ⟨⟨v2, (), rfl, (by show v2 = bdOr s3 f0 f1 v1 v2; unfold bdOr; rw [if_neg (by omega)]), by rw [ht]; exact hP9, hD9⟩, hS.F ht⟩) hS.2.2 dX8_boundOr_26
  · simp only [i_lt, i_le, i_eq, ti_0] at c_4
    refine lv_iload_n hx hb dX8_boundOr_10 rfl (lv_at hl 0 rfl) ?_
    refine lv_bipush (v := 24) hx hb dX8_boundOr_11 (by decide) ?_
    refine lv_icmp_ge (tgt := 25) hx hb dX8_boundOr_13 (by decide) (fun c_5 => ?_) (fun c_5 => ?_)
    · simp only [i_lt, i_le, i_eq, ti_24] at c_5
      refine lv_iload_n hx hb dX8_boundOr_25 rfl (lv_at hl 3 rfl) ?_
      have hP9 := hP.sub (ws' := [(h0, .inr (8, [.ref w0, .ref w1, .ref w2, .int s3, .ref w3, .ref w4, .ref w5, .int s7, .int s8])), (w0, .inl (k0, 24, .inl f0)), (w1, .inl (k1, 24, .inl f1))]) [1, 2, 0] rfl
      have hD9 := hD.sub (ws' := [(h0, .inr (8, [.ref w0, .ref w1, .ref w2, .int s3, .ref w3, .ref w4, .ref w5, .int s7, .int s8])), (w0, .inl (k0, 24, .inl f0)), (w1, .inl (k1, 24, .inl f1))]) [1, 2, 0] (by decide) rfl
      exact W.iret (v := v2) hx hb hr (fun t ht hW => ⟨⟨v2, (), rfl, (by show v2 = bdOr s3 f0 f1 v1 v2; unfold bdOr; rw [if_neg (by omega)]), by rw [ht]; exact hP9, hD9⟩, hS.F ht⟩) hS.2.2 dX8_boundOr_26
    · simp only [i_lt, i_le, i_eq, ti_24] at c_5
      refine lv_aload_n hx hb dX8_boundOr_16 rfl (lv_at hl 1 rfl) ?_
      refine va_get (D := (dC, dI)) (ci := 8) (v := .ref w1) (C := RX8) (T := TX8) (N := 9) hx hb hg gb_8 hown hK hP 1 rfl rfl 1 (by decide) (hg _ gm_fieldLink_RX8_15_ErrandGuild_Scopes_bindingValues_AI_) (fun _ h9 => h9) rfl dX8_boundOr_17 ?_
      refine lv_iload_n hx hb dX8_boundOr_20 rfl (lv_at hl 0 rfl) ?_
      refine va_iald hx hb hK hP 0 1 rfl rfl (vp_in_iff.mpr ⟨by omega, by omega⟩) dX8_boundOr_21 ?_
      refine lv_topi (fun z_6 ez_6 => ?_)
      refine lv_goto (tgt := 26) hx hb dX8_boundOr_22 (by decide) ?_
      have hP9 := hP.sub (ws' := [(h0, .inr (8, [.ref w0, .ref w1, .ref w2, .int s3, .ref w3, .ref w4, .ref w5, .int s7, .int s8])), (w0, .inl (k0, 24, .inl f0)), (w1, .inl (k1, 24, .inl f1))]) [1, 2, 0] rfl
      have hD9 := hD.sub (ws' := [(h0, .inr (8, [.ref w0, .ref w1, .ref w2, .int s3, .ref w3, .ref w4, .ref w5, .int s7, .int s8])), (w0, .inl (k0, 24, .inl f0)), (w1, .inl (k1, 24, .inl f1))]) [1, 2, 0] (by decide) rfl
      exact W.iret (v := z_6) hx hb hr (fun t ht hW => ⟨⟨z_6, (), rfl, (by show z_6 = bdOr s3 f0 f1 v1 v2; unfold bdOr; rw [if_pos (by omega), ez_6, cl_eq, w_3.1]), by rw [ht]; exact hP9, hD9⟩, hS.F ht⟩) hS.2.2 dX8_boundOr_26

set_option maxHeartbeats 4000000 in
set_option maxRecDepth 100000 in
theorem c_X8_rebind (l : Launch) (dC : Nat → ClassId) (dI : Nat → Nat → Nat) (h0 : Nat) (w0 : Nat) (w1 : Nat) (w2 : Nat) (w3 : Nat) (w4 : Nat) (w5 : Nat) (k0 : ClassId) (k1 : ClassId) (f0 : Nat → Int32) (f1 : Nat → Int32) (s3 : Int32) (s7 : Int32) (s8 : Int32) (v1 : Int32) (v2 : Int32) (sz : Nat)  : Met l yX8_rebind (.code yX8_rebind cX8_rebind 4 (some .boolean) :: gw) ({ frames := 1, cells := 0, slots := 0, locals := 22 }) (va_Pc [.ref h0, .int v1, .int v2] (fun U => U.heap.size = sz ∧ va_P (dC, dI) vwCl [(h0, .inr (8, [.ref w0, .ref w1, .ref w2, .int s3, .ref w3, .ref w4, .ref w5, .int s7, .int s8])), (w0, .inl (k0, 24, .inl f0)), (w1, .inl (k1, 24, .inl f1))] U.heap ∧ va_K (dC, dI) vwCl [(k0, .int), (k1, .int)] U ∧ va_D (fun _ => True) [(h0, .inr (8, [.ref w0, .ref w1, .ref w2, .int s3, .ref w3, .ref w4, .ref w5, .int s7, .int s8])), (w0, .inl (k0, 24, .inl f0)), (w1, .inl (k1, 24, .inl f1))] ∧ nx U)) (va_Qi (fun (r : Int32) (u : wS) => (r = 1 ∧ (0 ≤ inn s3 f0 v1 24 ∧ inn s3 f0 v1 24 < 24)) ∨ (r = 0 ∧ ¬ (0 ≤ inn s3 f0 v1 24 ∧ inn s3 f0 v1 24 < 24))) (fun u t => va_P (dC, dI) vwCl [(h0, .inr (8, [.ref w0, .ref w1, .ref w2, .int (u.2.2.1 6 0), .ref w3, .ref w4, .ref w5, .int (u.2.2.1 7 0), .int (u.2.2.1 8 0)])), (w0, .inl (k0, 24, .inl f0)), (w1, .inl (k1, 24, .inl (u.2.2.1 1)))] t.heap ∧ va_D (va_A [(h0, .inr (8, [.ref w0, .ref w1, .ref w2, .int s3, .ref w3, .ref w4, .ref w5, .int s7, .int s8])), (w0, .inl (k0, 24, .inl f0)), (w1, .inl (k1, 24, .inl f1))] sz) [(h0, .inr (8, [.ref w0, .ref w1, .ref w2, .int (u.2.2.1 6 0), .ref w3, .ref w4, .ref w5, .int (u.2.2.1 7 0), .int (u.2.2.1 8 0)])), (w0, .inl (k0, 24, .inl f0)), (w1, .inl (k1, 24, .inl (u.2.2.1 1)))] ∧ va_K (dC, dI) vwCl [] t ∧ (u.2.2.1 1) = rbF s3 f0 f1 v1 v2 ∧ (u.2.2.1 6 0) = s3 ∧ (u.2.2.1 7 0) = s7 ∧ (u.2.2.1 8 0) = s8) (va_A [(h0, .inr (8, [.ref w0, .ref w1, .ref w2, .int s3, .ref w3, .ref w4, .ref w5, .int s7, .int s8])), (w0, .inl (k0, 24, .inl f0)), (w1, .inl (k1, 24, .inl f1))] sz)) 0 0 (va_A [(h0, .inr (8, [.ref w0, .ref w1, .ref w2, .int s3, .ref w3, .ref w4, .ref w5, .int s7, .int s8])), (w0, .inl (k0, 24, .inl f0)), (w1, .inl (k1, 24, .inl f1))] sz) := by
  refine Met.ofW (cc := cX8_rebind) (maxL := 4) (ret := (some .boolean)) (by decide) rfl ?_
  intro p e s m args below meth c s₁ B hml hv
  obtain ⟨rfl, hsz, hP, hK, hD0, hN⟩ := hv
  have hx := B.exec
  have hb := B.bytes
  have hr := B.returns
  have hts := atoms_spec (ws := .code yX8_rebind cX8_rebind 4 (some .boolean) :: gw) B.pre
  have hg : ∀ w ∈ gw, w.before _ s = true := fun w h => hts w (List.mem_cons_of_mem _ h)
  have hown : s.vm.findClass RX8 = some m.cls := findClass_of_methodNamed B.named
  have hlocks := B.notSynchronized
  subst hsz
  have hD := hD0.self (sz := s.heap.size)
  generalize hAe : va_A [(h0, .inr (8, [.ref w0, .ref w1, .ref w2, .int s3, .ref w3, .ref w4, .ref w5, .int s7, .int s8])), (w0, .inl (k0, 24, .inl f0)), (w1, .inl (k1, 24, .inl f1))] s.heap.size = A at hD ⊢
  have hA : ∀ q : Nat, s.heap.size ≤ q → A q := fun q h => by rw [← hAe]; exact Or.inr h
  have hS : va_S A s.heap s.heap [] := va_S.rf
  have hP : va_P (dC, dI) vwCl [(h0, .inr (8, [.ref w0, .ref w1, .ref w2, .int s3, .ref w3, .ref w4, .ref w5, .int s7, .int s8])), (w0, .inl (k0, 24, .inl f0)), (w1, .inl (k1, 24, .inl f1))] s.heap := hP
  have hl := lv_entry ([.ref h0, .int v1, .int v2]) (n := 4) (Nat.le_of_ble_eq_true rfl)
  rw [lg_entry_eq]
  generalize (lg_sl ([.ref h0, .int v1, .int v2]) ++ List.replicate (4 - (lg_sl ([.ref h0, .int v1, .int v2])).length) Slot.unset).toArray = ls at hl ⊢
  have hl : lv_has ls 4 [(0, .ref h0), (1, .int v1), (2, .int v2)] := hl
  refine lv_aload_n hx hb dX8_rebind_0 rfl (lv_at hl 0 rfl) ?_
  refine lv_iload_n hx hb dX8_rebind_1 rfl (lv_at hl 1 rfl) ?_
  have hPc := hP.sub (ws' := [(h0, .inr (8, [.ref w0, .ref w1, .ref w2, .int s3, .ref w3, .ref w4, .ref w5, .int s7, .int s8])), (w0, .inl (k0, 24, .inl f0))]) [0, 1] rfl
  have hDc := hD.sub (ws' := [(h0, .inr (8, [.ref w0, .ref w1, .ref w2, .int s3, .ref w3, .ref w4, .ref w5, .int s7, .int s8])), (w0, .inl (k0, 24, .inl f0))]) [0, 1] (by decide) rfl
  have hKc := hK.sub (tys' := [(k0, .int)]) [0] rfl
  have hFc := va_free (wc := [(h0, .inr (8, [.ref w0, .ref w1, .ref w2, .int s3, .ref w3, .ref w4, .ref w5, .int s7, .int s8])), (w0, .inl (k0, 24, .inl f0))]) hD hS hA [0, 1] rfl
  refine va_calli (va_runV (As := [.int v1]) (rest := []) ⟨hx, hb, hml, hown, hg⟩ (c_X8_innermostOf l dC dI h0 w0 w1 w2 w3 w4 w5 k0 f0 s3 s7 s8 v1 s.heap.size ) (cwV 1 hg (gw_V gm_methodLink_RX8_40_yX8_innermostOf gm_instanceMethod_yX8_innermostOf gm_selects_RX8_yX8_innermostOf_yX8_innermostOf gm_initialized_RX8 gm_code_yX8_innermostOf_cX8_innermostOf_3_some_int_) rfl rfl rfl (by decide +kernel) ⟨Nat.le_of_ble_eq_true rfl, Nat.le_of_ble_eq_true rfl⟩) ⟨fun a U g mk q => by obtain ⟨q0, q1, qP, qK, qD, qN⟩ := q; exact ⟨q0, q1, qP, va_K.moved (u := U) (U := U.calling g mk a) (Vm.Alike.refl U.vm) qK, qD, nx_same (u := U) (U := U.calling g mk a) rfl qN⟩, va_recv hKc hPc (ci := 8) (q0 := 0) rfl rfl, fun U hU hW => ⟨rfl, by rw [hU], by rw [hU]; exact hPc, va_K.moved hW.alike hKc, hDc.weaken (fun _ _ _ _ => trivial), nx_warm hW hN⟩⟩ rfl rfl hl.1 rfl (lv_room (Nat.le_of_ble_eq_true rfl)) dX8_rebind_2 ⟨Nat.le_of_ble_eq_true rfl, Nat.le_of_ble_eq_true rfl⟩) hS (fun q _ h => hFc q h) hFc (fun r_1 u_2 t H1 locs ht hvm hw hB hz1 hk1 hS => ?_)
  obtain ⟨hP1, hD1⟩ := hB
  rw [ht] at hP1
  obtain ⟨hP, hD⟩ := va_join (wr := [(w1, .inl (k1, 24, .inl f1))]) (w1 := [(h0, .inr (8, [.ref w0, .ref w1, .ref w2, .int s3, .ref w3, .ref w4, .ref w5, .int s7, .int s8])), (w0, .inl (k0, 24, .inl f0))]) hP hD [0, 1] [2] rfl rfl (by decide) (by decide +kernel) hk1 hFc hP1 hD1
  generalize H1 = H at hP hS ⊢
  have hP : va_P (dC, dI) vwCl [(w1, .inl (k1, 24, .inl f1)), (h0, .inr (8, [.ref w0, .ref w1, .ref w2, .int s3, .ref w3, .ref w4, .ref w5, .int s7, .int s8])), (w0, .inl (k0, 24, .inl f0))] H := hP
  have hD : va_D A [(w1, .inl (k1, 24, .inl f1)), (h0, .inr (8, [.ref w0, .ref w1, .ref w2, .int s3, .ref w3, .ref w4, .ref w5, .int s7, .int s8])), (w0, .inl (k0, 24, .inl f0))] := hD
  refine W.widen (k := 0) (n := 0) (Nat.le_of_ble_eq_true rfl) (Nat.le_of_ble_eq_true rfl) ?_
  have w_3 := hw
  try dsimp +instances only [c9n, c9f, c9T, c9G, c9K, c9F, q10F, q10n] at w_3
  refine lv_istore_n (lv' := [(3, .int r_1), (0, .ref h0), (1, .int v1), (2, .int v2)]) hx hb dX8_rebind_5 rfl hl (by decide) rfl (fun ls hl => ?_)
  refine lv_iload_n hx hb dX8_rebind_6 rfl (lv_at hl 0 rfl) ?_
  refine lv_if_lt (tgt := 16) hx hb dX8_rebind_7 (by decide) (fun c_4 => ?_) (fun c_4 => ?_)
  · simp only [i_lt, i_le, i_eq, ti_0] at c_4
    refine lv_iconst (v := 0) hx hb dX8_rebind_16 (by decide) ?_
    have hP9 := hP.sub (ws' := [(h0, .inr (8, [.ref w0, .ref w1, .ref w2, .int s3, .ref w3, .ref w4, .ref w5, .int s7, .int s8])), (w0, .inl (k0, 24, .inl f0)), (w1, .inl (k1, 24, .inl f1))]) [1, 2, 0] rfl
    have hD9 := hD.sub (ws' := [(h0, .inr (8, [.ref w0, .ref w1, .ref w2, .int s3, .ref w3, .ref w4, .ref w5, .int s7, .int s8])), (w0, .inl (k0, 24, .inl f0)), (w1, .inl (k1, 24, .inl f1))]) [1, 2, 0] (by decide) rfl
    have hK9 := hK.sub (tys' := []) [] rfl
    exact W.zret (v := 0) hx hb hr rfl (fun t ht hW => ⟨⟨0, ((fun _ => 0), (fun _ => (dC 0)), (fun k => ([(fun _ => 0), f1, (fun _ => 0), (fun _ => 0), (fun _ => 0), (fun _ => 0), (fun _ => s3), (fun _ => s7), (fun _ => s8)] : List (Nat → Int32)).getD k (fun _ => 0)), (fun _ => (fun _ => none))), rfl, (Or.inr ⟨rfl, by omega⟩), by rw [ht]; exact hP9, hD9, va_K.moved hW.alike hK9, (by show f1 = rbF s3 f0 f1 v1 v2; unfold rbF; rw [if_neg (by omega)]), (by show s3 = s3; (subst_vars; first | rfl | ((try simp only [aN, aF, st8, st17, wrOr, gvAt, bdOr, rbF, bnN, bnM, bnF, frN, ctN, caN, caB, caA, hAt, cAt, nb1, nb0]); first | rfl | (rw [if_pos (by omega)]; done) | (rw [if_neg (by omega)]; done) | (rw [if_pos (by omega)]; rfl) | (rw [if_neg (by omega)]; rfl)))), (by show s7 = s7; (subst_vars; first | rfl | ((try simp only [aN, aF, st8, st17, wrOr, gvAt, bdOr, rbF, bnN, bnM, bnF, frN, ctN, caN, caB, caA, hAt, cAt, nb1, nb0]); first | rfl | (rw [if_pos (by omega)]; done) | (rw [if_neg (by omega)]; done) | (rw [if_pos (by omega)]; rfl) | (rw [if_neg (by omega)]; rfl)))), (by show s8 = s8; (subst_vars; first | rfl | ((try simp only [aN, aF, st8, st17, wrOr, gvAt, bdOr, rbF, bnN, bnM, bnF, frN, ctN, caN, caB, caA, hAt, cAt, nb1, nb0]); first | rfl | (rw [if_pos (by omega)]; done) | (rw [if_neg (by omega)]; done) | (rw [if_pos (by omega)]; rfl) | (rw [if_neg (by omega)]; rfl))))⟩, hS.F ht⟩) hS.2.2 dX8_rebind_17
  · simp only [i_lt, i_le, i_eq, ti_0] at c_4
    refine lv_iload_n hx hb dX8_rebind_10 rfl (lv_at hl 0 rfl) ?_
    refine lv_bipush (v := 24) hx hb dX8_rebind_11 (by decide) ?_
    refine lv_icmp_lt (tgt := 18) hx hb dX8_rebind_13 (by decide) (fun c_5 => ?_) (fun c_5 => ?_)
    · simp only [i_lt, i_le, i_eq, ti_24] at c_5
      refine lv_aload_n hx hb dX8_rebind_18 rfl (lv_at hl 1 rfl) ?_
      refine va_get (D := (dC, dI)) (ci := 8) (v := .ref w1) (C := RX8) (T := TX8) (N := 9) hx hb hg gb_8 hown hK hP 1 rfl rfl 1 (by decide) (hg _ gm_fieldLink_RX8_15_ErrandGuild_Scopes_bindingValues_AI_) (fun _ h9 => h9) rfl dX8_rebind_19 ?_
      refine lv_iload_n hx hb dX8_rebind_22 rfl (lv_at hl 0 rfl) ?_
      refine lv_iload_n hx hb dX8_rebind_23 rfl (lv_at hl 3 rfl) ?_
      refine va_iast hx hb hK hP hD hS 0 1 rfl rfl (vp_in_iff.mpr ⟨by omega, by omega⟩) dX8_rebind_24 (fun H locs hP hD hS => ?_)
      have hP : va_P (dC, dI) vwCl [(w1, .inl (k1, 24, .inl (upd f1 (Int32.toNatClampNeg r_1) v2))), (h0, .inr (8, [.ref w0, .ref w1, .ref w2, .int s3, .ref w3, .ref w4, .ref w5, .int s7, .int s8])), (w0, .inl (k0, 24, .inl f0))] H := hP
      have hD : va_D A [(w1, .inl (k1, 24, .inl (upd f1 (Int32.toNatClampNeg r_1) v2))), (h0, .inr (8, [.ref w0, .ref w1, .ref w2, .int s3, .ref w3, .ref w4, .ref w5, .int s7, .int s8])), (w0, .inl (k0, 24, .inl f0))] := hD
      refine lv_iconst (v := 1) hx hb dX8_rebind_25 (by decide) ?_
      have hP9 := hP.sub (ws' := [(h0, .inr (8, [.ref w0, .ref w1, .ref w2, .int s3, .ref w3, .ref w4, .ref w5, .int s7, .int s8])), (w0, .inl (k0, 24, .inl f0)), (w1, .inl (k1, 24, .inl (upd f1 (Int32.toNatClampNeg r_1) v2)))]) [1, 2, 0] rfl
      have hD9 := hD.sub (ws' := [(h0, .inr (8, [.ref w0, .ref w1, .ref w2, .int s3, .ref w3, .ref w4, .ref w5, .int s7, .int s8])), (w0, .inl (k0, 24, .inl f0)), (w1, .inl (k1, 24, .inl (upd f1 (Int32.toNatClampNeg r_1) v2)))]) [1, 2, 0] (by decide) rfl
      have hK9 := hK.sub (tys' := []) [] rfl
      exact W.zret (v := 1) hx hb hr rfl (fun t ht hW => ⟨⟨1, ((fun _ => 0), (fun _ => (dC 0)), (fun k => ([(fun _ => 0), upd f1 (Int32.toNatClampNeg r_1) v2, (fun _ => 0), (fun _ => 0), (fun _ => 0), (fun _ => 0), (fun _ => s3), (fun _ => s7), (fun _ => s8)] : List (Nat → Int32)).getD k (fun _ => 0)), (fun _ => (fun _ => none))), rfl, (Or.inl ⟨rfl, by omega⟩), by rw [ht]; exact hP9, hD9, va_K.moved hW.alike hK9, (by show upd f1 (Int32.toNatClampNeg r_1) v2 = rbF s3 f0 f1 v1 v2; unfold rbF; rw [if_pos (by omega), cl_eq, w_3.1]), (by show s3 = s3; (subst_vars; first | rfl | ((try simp only [aN, aF, st8, st17, wrOr, gvAt, bdOr, rbF, bnN, bnM, bnF, frN, ctN, caN, caB, caA, hAt, cAt, nb1, nb0]); first | rfl | (rw [if_pos (by omega)]; done) | (rw [if_neg (by omega)]; done) | (rw [if_pos (by omega)]; rfl) | (rw [if_neg (by omega)]; rfl)))), (by show s7 = s7; (subst_vars; first | rfl | ((try simp only [aN, aF, st8, st17, wrOr, gvAt, bdOr, rbF, bnN, bnM, bnF, frN, ctN, caN, caB, caA, hAt, cAt, nb1, nb0]); first | rfl | (rw [if_pos (by omega)]; done) | (rw [if_neg (by omega)]; done) | (rw [if_pos (by omega)]; rfl) | (rw [if_neg (by omega)]; rfl)))), (by show s8 = s8; (subst_vars; first | rfl | ((try simp only [aN, aF, st8, st17, wrOr, gvAt, bdOr, rbF, bnN, bnM, bnF, frN, ctN, caN, caB, caA, hAt, cAt, nb1, nb0]); first | rfl | (rw [if_pos (by omega)]; done) | (rw [if_neg (by omega)]; done) | (rw [if_pos (by omega)]; rfl) | (rw [if_neg (by omega)]; rfl))))⟩, hS.F ht⟩) hS.2.2 dX8_rebind_26
    · simp only [i_lt, i_le, i_eq, ti_24] at c_5
      refine lv_iconst (v := 0) hx hb dX8_rebind_16 (by decide) ?_
      have hP9 := hP.sub (ws' := [(h0, .inr (8, [.ref w0, .ref w1, .ref w2, .int s3, .ref w3, .ref w4, .ref w5, .int s7, .int s8])), (w0, .inl (k0, 24, .inl f0)), (w1, .inl (k1, 24, .inl f1))]) [1, 2, 0] rfl
      have hD9 := hD.sub (ws' := [(h0, .inr (8, [.ref w0, .ref w1, .ref w2, .int s3, .ref w3, .ref w4, .ref w5, .int s7, .int s8])), (w0, .inl (k0, 24, .inl f0)), (w1, .inl (k1, 24, .inl f1))]) [1, 2, 0] (by decide) rfl
      have hK9 := hK.sub (tys' := []) [] rfl
      exact W.zret (v := 0) hx hb hr rfl (fun t ht hW => ⟨⟨0, ((fun _ => 0), (fun _ => (dC 0)), (fun k => ([(fun _ => 0), f1, (fun _ => 0), (fun _ => 0), (fun _ => 0), (fun _ => 0), (fun _ => s3), (fun _ => s7), (fun _ => s8)] : List (Nat → Int32)).getD k (fun _ => 0)), (fun _ => (fun _ => none))), rfl, (Or.inr ⟨rfl, by omega⟩), by rw [ht]; exact hP9, hD9, va_K.moved hW.alike hK9, (by show f1 = rbF s3 f0 f1 v1 v2; unfold rbF; rw [if_neg (by omega)]), (by show s3 = s3; (subst_vars; first | rfl | ((try simp only [aN, aF, st8, st17, wrOr, gvAt, bdOr, rbF, bnN, bnM, bnF, frN, ctN, caN, caB, caA, hAt, cAt, nb1, nb0]); first | rfl | (rw [if_pos (by omega)]; done) | (rw [if_neg (by omega)]; done) | (rw [if_pos (by omega)]; rfl) | (rw [if_neg (by omega)]; rfl)))), (by show s7 = s7; (subst_vars; first | rfl | ((try simp only [aN, aF, st8, st17, wrOr, gvAt, bdOr, rbF, bnN, bnM, bnF, frN, ctN, caN, caB, caA, hAt, cAt, nb1, nb0]); first | rfl | (rw [if_pos (by omega)]; done) | (rw [if_neg (by omega)]; done) | (rw [if_pos (by omega)]; rfl) | (rw [if_neg (by omega)]; rfl)))), (by show s8 = s8; (subst_vars; first | rfl | ((try simp only [aN, aF, st8, st17, wrOr, gvAt, bdOr, rbF, bnN, bnM, bnF, frN, ctN, caN, caB, caA, hAt, cAt, nb1, nb0]); first | rfl | (rw [if_pos (by omega)]; done) | (rw [if_neg (by omega)]; done) | (rw [if_pos (by omega)]; rfl) | (rw [if_neg (by omega)]; rfl))))⟩, hS.F ht⟩) hS.2.2 dX8_rebind_17

set_option maxHeartbeats 4000000 in
set_option maxRecDepth 100000 in
theorem c_X8_bind (l : Launch) (dC : Nat → ClassId) (dI : Nat → Nat → Nat) (h0 : Nat) (w0 : Nat) (w1 : Nat) (w2 : Nat) (w3 : Nat) (w4 : Nat) (w5 : Nat) (k0 : ClassId) (k1 : ClassId) (k2 : ClassId) (f0 : Nat → Int32) (f1 : Nat → Int32) (f2 : Nat → Int32) (s3 : Int32) (s7 : Int32) (s8 : Int32) (v1 : Int32) (v2 : Int32) (sz : Nat)  : Met l yX8_bind (.code yX8_bind cX8_bind 3 none :: gw) ({ frames := 0, cells := 0, slots := 0, locals := 0 }) (va_Pc [.ref h0, .int v1, .int v2] (fun U => U.heap.size = sz ∧ va_P (dC, dI) vwCl [(h0, .inr (8, [.ref w0, .ref w1, .ref w2, .int s3, .ref w3, .ref w4, .ref w5, .int s7, .int s8])), (w0, .inl (k0, 24, .inl f0)), (w1, .inl (k1, 24, .inl f1)), (w2, .inl (k2, 24, .inl f2))] U.heap ∧ va_K (dC, dI) vwCl [(k0, .int), (k1, .int), (k2, .int)] U ∧ va_D (fun _ => True) [(h0, .inr (8, [.ref w0, .ref w1, .ref w2, .int s3, .ref w3, .ref w4, .ref w5, .int s7, .int s8])), (w0, .inl (k0, 24, .inl f0)), (w1, .inl (k1, 24, .inl f1)), (w2, .inl (k2, 24, .inl f2))] ∧ nx U)) (va_Qv (fun (u : wS) => True) (fun u t => va_P (dC, dI) vwCl [(h0, .inr (8, [.ref w0, .ref w1, .ref w2, .int (u.2.2.1 6 0), .ref w3, .ref w4, .ref w5, .int (u.2.2.1 7 0), .int (u.2.2.1 8 0)])), (w0, .inl (k0, 24, .inl (u.2.2.1 0))), (w1, .inl (k1, 24, .inl (u.2.2.1 1))), (w2, .inl (k2, 24, .inl (u.2.2.1 2)))] t.heap ∧ va_D (va_A [(h0, .inr (8, [.ref w0, .ref w1, .ref w2, .int s3, .ref w3, .ref w4, .ref w5, .int s7, .int s8])), (w0, .inl (k0, 24, .inl f0)), (w1, .inl (k1, 24, .inl f1)), (w2, .inl (k2, 24, .inl f2))] sz) [(h0, .inr (8, [.ref w0, .ref w1, .ref w2, .int (u.2.2.1 6 0), .ref w3, .ref w4, .ref w5, .int (u.2.2.1 7 0), .int (u.2.2.1 8 0)])), (w0, .inl (k0, 24, .inl (u.2.2.1 0))), (w1, .inl (k1, 24, .inl (u.2.2.1 1))), (w2, .inl (k2, 24, .inl (u.2.2.1 2)))] ∧ va_K (dC, dI) vwCl [] t ∧ (u.2.2.1 0) = bnF s3 f0 v1 ∧ (u.2.2.1 1) = bnF s3 f1 v2 ∧ (u.2.2.1 2) = bnF s3 f2 s8 ∧ (u.2.2.1 6 0) = bnN s3 ∧ (u.2.2.1 7 0) = s7 ∧ (u.2.2.1 8 0) = s8) (va_A [(h0, .inr (8, [.ref w0, .ref w1, .ref w2, .int s3, .ref w3, .ref w4, .ref w5, .int s7, .int s8])), (w0, .inl (k0, 24, .inl f0)), (w1, .inl (k1, 24, .inl f1)), (w2, .inl (k2, 24, .inl f2))] sz)) 0 0 (va_A [(h0, .inr (8, [.ref w0, .ref w1, .ref w2, .int s3, .ref w3, .ref w4, .ref w5, .int s7, .int s8])), (w0, .inl (k0, 24, .inl f0)), (w1, .inl (k1, 24, .inl f1)), (w2, .inl (k2, 24, .inl f2))] sz) := by
  refine Met.ofW (cc := cX8_bind) (maxL := 3) (ret := none) (by decide) rfl ?_
  intro p e s m args below meth c s₁ B hml hv
  obtain ⟨rfl, hsz, hP, hK, hD0, hN⟩ := hv
  have hx := B.exec
  have hb := B.bytes
  have hr := B.returns
  have hts := atoms_spec (ws := .code yX8_bind cX8_bind 3 none :: gw) B.pre
  have hg : ∀ w ∈ gw, w.before _ s = true := fun w h => hts w (List.mem_cons_of_mem _ h)
  have hown : s.vm.findClass RX8 = some m.cls := findClass_of_methodNamed B.named
  have hlocks := B.notSynchronized
  subst hsz
  have hD := hD0.self (sz := s.heap.size)
  generalize hAe : va_A [(h0, .inr (8, [.ref w0, .ref w1, .ref w2, .int s3, .ref w3, .ref w4, .ref w5, .int s7, .int s8])), (w0, .inl (k0, 24, .inl f0)), (w1, .inl (k1, 24, .inl f1)), (w2, .inl (k2, 24, .inl f2))] s.heap.size = A at hD ⊢
  have hA : ∀ q : Nat, s.heap.size ≤ q → A q := fun q h => by rw [← hAe]; exact Or.inr h
  have hS : va_S A s.heap s.heap [] := va_S.rf
  have hP : va_P (dC, dI) vwCl [(h0, .inr (8, [.ref w0, .ref w1, .ref w2, .int s3, .ref w3, .ref w4, .ref w5, .int s7, .int s8])), (w0, .inl (k0, 24, .inl f0)), (w1, .inl (k1, 24, .inl f1)), (w2, .inl (k2, 24, .inl f2))] s.heap := hP
  have hl := lv_entry ([.ref h0, .int v1, .int v2]) (n := 3) (Nat.le_of_ble_eq_true rfl)
  rw [lg_entry_eq]
  generalize (lg_sl ([.ref h0, .int v1, .int v2]) ++ List.replicate (3 - (lg_sl ([.ref h0, .int v1, .int v2])).length) Slot.unset).toArray = ls at hl ⊢
  have hl : lv_has ls 3 [(0, .ref h0), (1, .int v1), (2, .int v2)] := hl
  refine lv_aload_n hx hb dX8_bind_0 rfl (lv_at hl 0 rfl) ?_
  refine va_get (D := (dC, dI)) (ci := 8) (v := .int s3) (C := RX8) (T := TX8) (N := 9) hx hb hg gb_8 hown hK hP 0 rfl rfl 3 (by decide) (hg _ gm_fieldLink_RX8_30_ErrandGuild_Scopes_bindings_I_) (fun _ h9 => h9) rfl dX8_bind_1 ?_
  refine lv_if_lt (tgt := 16) hx hb dX8_bind_4 (by decide) (fun c_1 => ?_) (fun c_1 => ?_)
  · simp only [i_lt, i_le, i_eq, ti_0] at c_1
    have hP9 := hP.sub (ws' := [(h0, .inr (8, [.ref w0, .ref w1, .ref w2, .int s3, .ref w3, .ref w4, .ref w5, .int s7, .int s8])), (w0, .inl (k0, 24, .inl f0)), (w1, .inl (k1, 24, .inl f1)), (w2, .inl (k2, 24, .inl f2))]) [0, 1, 2, 3] rfl
    have hD9 := hD.sub (ws' := [(h0, .inr (8, [.ref w0, .ref w1, .ref w2, .int s3, .ref w3, .ref w4, .ref w5, .int s7, .int s8])), (w0, .inl (k0, 24, .inl f0)), (w1, .inl (k1, 24, .inl f1)), (w2, .inl (k2, 24, .inl f2))]) [0, 1, 2, 3] (by decide) rfl
    have hK9 := hK.sub (tys' := []) [] rfl
    exact W.vret hx hb hr (fun t ht hW => ⟨⟨((fun _ => 0), (fun _ => (dC 0)), (fun k => ([f0, f1, f2, (fun _ => 0), (fun _ => 0), (fun _ => 0), (fun _ => s3), (fun _ => s7), (fun _ => s8)] : List (Nat → Int32)).getD k (fun _ => 0)), (fun _ => (fun _ => none))), rfl, trivial, by rw [ht]; exact hP9, hD9, va_K.moved hW.alike hK9, (by show f0 = bnF s3 f0 v1; (subst_vars; first | rfl | ((try simp only [aN, aF, st8, st17, wrOr, gvAt, bdOr, rbF, bnN, bnM, bnF, frN, ctN, caN, caB, caA, hAt, cAt, nb1, nb0]); first | rfl | (rw [if_pos (by omega)]; done) | (rw [if_neg (by omega)]; done) | (rw [if_pos (by omega)]; rfl) | (rw [if_neg (by omega)]; rfl)))), (by show f1 = bnF s3 f1 v2; (subst_vars; first | rfl | ((try simp only [aN, aF, st8, st17, wrOr, gvAt, bdOr, rbF, bnN, bnM, bnF, frN, ctN, caN, caB, caA, hAt, cAt, nb1, nb0]); first | rfl | (rw [if_pos (by omega)]; done) | (rw [if_neg (by omega)]; done) | (rw [if_pos (by omega)]; rfl) | (rw [if_neg (by omega)]; rfl)))), (by show f2 = bnF s3 f2 s8; (subst_vars; first | rfl | ((try simp only [aN, aF, st8, st17, wrOr, gvAt, bdOr, rbF, bnN, bnM, bnF, frN, ctN, caN, caB, caA, hAt, cAt, nb1, nb0]); first | rfl | (rw [if_pos (by omega)]; done) | (rw [if_neg (by omega)]; done) | (rw [if_pos (by omega)]; rfl) | (rw [if_neg (by omega)]; rfl)))), (by show s3 = bnN s3; (subst_vars; first | rfl | ((try simp only [aN, aF, st8, st17, wrOr, gvAt, bdOr, rbF, bnN, bnM, bnF, frN, ctN, caN, caB, caA, hAt, cAt, nb1, nb0]); first | rfl | (rw [if_pos (by omega)]; done) | (rw [if_neg (by omega)]; done) | (rw [if_pos (by omega)]; rfl) | (rw [if_neg (by omega)]; rfl)))), (by show s7 = s7; (subst_vars; first | rfl | ((try simp only [aN, aF, st8, st17, wrOr, gvAt, bdOr, rbF, bnN, bnM, bnF, frN, ctN, caN, caB, caA, hAt, cAt, nb1, nb0]); first | rfl | (rw [if_pos (by omega)]; done) | (rw [if_neg (by omega)]; done) | (rw [if_pos (by omega)]; rfl) | (rw [if_neg (by omega)]; rfl)))), (by show s8 = s8; (subst_vars; first | rfl | ((try simp only [aN, aF, st8, st17, wrOr, gvAt, bdOr, rbF, bnN, bnM, bnF, frN, ctN, caN, caB, caA, hAt, cAt, nb1, nb0]); first | rfl | (rw [if_pos (by omega)]; done) | (rw [if_neg (by omega)]; done) | (rw [if_pos (by omega)]; rfl) | (rw [if_neg (by omega)]; rfl))))⟩, hS.F ht⟩) hS.2.2 dX8_bind_16
  · simp only [i_lt, i_le, i_eq, ti_0] at c_1
    refine lv_aload_n hx hb dX8_bind_7 rfl (lv_at hl 0 rfl) ?_
    refine va_get (D := (dC, dI)) (ci := 8) (v := .int s3) (C := RX8) (T := TX8) (N := 9) hx hb hg gb_8 hown hK hP 0 rfl rfl 3 (by decide) (hg _ gm_fieldLink_RX8_30_ErrandGuild_Scopes_bindings_I_) (fun _ h9 => h9) rfl dX8_bind_8 ?_
    refine lv_bipush (v := 24) hx hb dX8_bind_11 (by decide) ?_
    refine lv_icmp_lt (tgt := 17) hx hb dX8_bind_13 (by decide) (fun c_2 => ?_) (fun c_2 => ?_)
    · simp only [i_lt, i_le, i_eq, ti_24] at c_2
      refine lv_aload_n hx hb dX8_bind_17 rfl (lv_at hl 0 rfl) ?_
      refine va_get (D := (dC, dI)) (ci := 8) (v := .ref w0) (C := RX8) (T := TX8) (N := 9) hx hb hg gb_8 hown hK hP 0 rfl rfl 0 (by decide) (hg _ gm_fieldLink_RX8_9_ErrandGuild_Scopes_bindingSlots_AI_) (fun _ h9 => h9) rfl dX8_bind_18 ?_
      refine lv_aload_n hx hb dX8_bind_21 rfl (lv_at hl 0 rfl) ?_
      refine va_get (D := (dC, dI)) (ci := 8) (v := .int s3) (C := RX8) (T := TX8) (N := 9) hx hb hg gb_8 hown hK hP 0 rfl rfl 3 (by decide) (hg _ gm_fieldLink_RX8_30_ErrandGuild_Scopes_bindings_I_) (fun _ h9 => h9) rfl dX8_bind_22 ?_
      refine lv_iload_n hx hb dX8_bind_25 rfl (lv_at hl 1 rfl) ?_
      refine va_iast hx hb hK hP hD hS 1 0 rfl rfl (vp_in_iff.mpr ⟨by omega, by omega⟩) dX8_bind_26 (fun H locs hP hD hS => ?_)
      have hP : va_P (dC, dI) vwCl [(h0, .inr (8, [.ref w0, .ref w1, .ref w2, .int s3, .ref w3, .ref w4, .ref w5, .int s7, .int s8])), (w0, .inl (k0, 24, .inl (upd f0 (Int32.toNatClampNeg s3) v1))), (w1, .inl (k1, 24, .inl f1)), (w2, .inl (k2, 24, .inl f2))] H := hP
      have hD : va_D A [(h0, .inr (8, [.ref w0, .ref w1, .ref w2, .int s3, .ref w3, .ref w4, .ref w5, .int s7, .int s8])), (w0, .inl (k0, 24, .inl (upd f0 (Int32.toNatClampNeg s3) v1))), (w1, .inl (k1, 24, .inl f1)), (w2, .inl (k2, 24, .inl f2))] := hD
      refine lv_aload_n hx hb dX8_bind_27 rfl (lv_at hl 0 rfl) ?_
      refine va_get (D := (dC, dI)) (ci := 8) (v := .ref w1) (C := RX8) (T := TX8) (N := 9) hx hb hg gb_8 hown hK hP 0 rfl rfl 1 (by decide) (hg _ gm_fieldLink_RX8_15_ErrandGuild_Scopes_bindingValues_AI_) (fun _ h9 => h9) rfl dX8_bind_28 ?_
      refine lv_aload_n hx hb dX8_bind_31 rfl (lv_at hl 0 rfl) ?_
      refine va_get (D := (dC, dI)) (ci := 8) (v := .int s3) (C := RX8) (T := TX8) (N := 9) hx hb hg gb_8 hown hK hP 0 rfl rfl 3 (by decide) (hg _ gm_fieldLink_RX8_30_ErrandGuild_Scopes_bindings_I_) (fun _ h9 => h9) rfl dX8_bind_32 ?_
      refine lv_iload_n hx hb dX8_bind_35 rfl (lv_at hl 2 rfl) ?_
      refine va_iast hx hb hK hP hD hS 2 1 rfl rfl (vp_in_iff.mpr ⟨by omega, by omega⟩) dX8_bind_36 (fun H locs hP hD hS => ?_)
      have hP : va_P (dC, dI) vwCl [(h0, .inr (8, [.ref w0, .ref w1, .ref w2, .int s3, .ref w3, .ref w4, .ref w5, .int s7, .int s8])), (w0, .inl (k0, 24, .inl (upd f0 (Int32.toNatClampNeg s3) v1))), (w1, .inl (k1, 24, .inl (upd f1 (Int32.toNatClampNeg s3) v2))), (w2, .inl (k2, 24, .inl f2))] H := hP
      have hD : va_D A [(h0, .inr (8, [.ref w0, .ref w1, .ref w2, .int s3, .ref w3, .ref w4, .ref w5, .int s7, .int s8])), (w0, .inl (k0, 24, .inl (upd f0 (Int32.toNatClampNeg s3) v1))), (w1, .inl (k1, 24, .inl (upd f1 (Int32.toNatClampNeg s3) v2))), (w2, .inl (k2, 24, .inl f2))] := hD
      refine lv_aload_n hx hb dX8_bind_37 rfl (lv_at hl 0 rfl) ?_
      refine va_get (D := (dC, dI)) (ci := 8) (v := .ref w2) (C := RX8) (T := TX8) (N := 9) hx hb hg gb_8 hown hK hP 0 rfl rfl 2 (by decide) (hg _ gm_fieldLink_RX8_18_ErrandGuild_Scopes_bindingMarks_AI_) (fun _ h9 => h9) rfl dX8_bind_38 ?_
      refine lv_aload_n hx hb dX8_bind_41 rfl (lv_at hl 0 rfl) ?_
      refine va_get (D := (dC, dI)) (ci := 8) (v := .int s3) (C := RX8) (T := TX8) (N := 9) hx hb hg gb_8 hown hK hP 0 rfl rfl 3 (by decide) (hg _ gm_fieldLink_RX8_30_ErrandGuild_Scopes_bindings_I_) (fun _ h9 => h9) rfl dX8_bind_42 ?_
      refine lv_aload_n hx hb dX8_bind_45 rfl (lv_at hl 0 rfl) ?_
      refine va_get (D := (dC, dI)) (ci := 8) (v := .int s8) (C := RX8) (T := TX8) (N := 9) hx hb hg gb_8 hown hK hP 0 rfl rfl 8 (by decide) (hg _ gm_fieldLink_RX8_37_ErrandGuild_Scopes_marks_I_) (fun _ h9 => h9) rfl dX8_bind_46 ?_
      refine va_iast hx hb hK hP hD hS 3 2 rfl rfl (vp_in_iff.mpr ⟨by omega, by omega⟩) dX8_bind_49 (fun H locs hP hD hS => ?_)
      have hP : va_P (dC, dI) vwCl [(h0, .inr (8, [.ref w0, .ref w1, .ref w2, .int s3, .ref w3, .ref w4, .ref w5, .int s7, .int s8])), (w0, .inl (k0, 24, .inl (upd f0 (Int32.toNatClampNeg s3) v1))), (w1, .inl (k1, 24, .inl (upd f1 (Int32.toNatClampNeg s3) v2))), (w2, .inl (k2, 24, .inl (upd f2 (Int32.toNatClampNeg s3) s8)))] H := hP
      have hD : va_D A [(h0, .inr (8, [.ref w0, .ref w1, .ref w2, .int s3, .ref w3, .ref w4, .ref w5, .int s7, .int s8])), (w0, .inl (k0, 24, .inl (upd f0 (Int32.toNatClampNeg s3) v1))), (w1, .inl (k1, 24, .inl (upd f1 (Int32.toNatClampNeg s3) v2))), (w2, .inl (k2, 24, .inl (upd f2 (Int32.toNatClampNeg s3) s8)))] := hD
      refine lv_aload_n hx hb dX8_bind_50 rfl (lv_at hl 0 rfl) ?_
      refine lv_dup hx hb dX8_bind_51 rfl ?_
      refine va_get (D := (dC, dI)) (ci := 8) (v := .int s3) (C := RX8) (T := TX8) (N := 9) hx hb hg gb_8 hown hK hP 0 rfl rfl 3 (by decide) (hg _ gm_fieldLink_RX8_30_ErrandGuild_Scopes_bindings_I_) (fun _ h9 => h9) rfl dX8_bind_52 ?_
      refine lv_iconst (v := 1) hx hb dX8_bind_55 (by decide) ?_
      refine lv_iadd hx hb dX8_bind_56 ?_
      refine lv_topi (fun z_3 ez_3 => ?_)
      have tz_3 : z_3.toInt = s3.toInt + 1 := ar_add rfl ti_1 ez_3 (by omega)
      refine va_put (D := (dC, dI)) (ci := 8) (v := .int z_3) (ty := .int) (C := RX8) (T := TX8) (N := 9) hx hb hg gb_8 tyX8 tyX8_ok nmX8 hown hK hP hD hS 0 rfl rfl 3 (by decide) (hg _ gm_fieldLink_RX8_30_ErrandGuild_Scopes_bindings_I_) (fun _ h9 => h9) rfl (by decide +kernel) rfl rfl (Nat.le_of_ble_eq_true rfl) dX8_bind_57 (fun H locs hP hD hS => ?_)
      have hP : va_P (dC, dI) vwCl [(h0, .inr (8, [.ref w0, .ref w1, .ref w2, .int z_3, .ref w3, .ref w4, .ref w5, .int s7, .int s8])), (w0, .inl (k0, 24, .inl (upd f0 (Int32.toNatClampNeg s3) v1))), (w1, .inl (k1, 24, .inl (upd f1 (Int32.toNatClampNeg s3) v2))), (w2, .inl (k2, 24, .inl (upd f2 (Int32.toNatClampNeg s3) s8)))] H := hP
      have hD : va_D A [(h0, .inr (8, [.ref w0, .ref w1, .ref w2, .int z_3, .ref w3, .ref w4, .ref w5, .int s7, .int s8])), (w0, .inl (k0, 24, .inl (upd f0 (Int32.toNatClampNeg s3) v1))), (w1, .inl (k1, 24, .inl (upd f1 (Int32.toNatClampNeg s3) v2))), (w2, .inl (k2, 24, .inl (upd f2 (Int32.toNatClampNeg s3) s8)))] := hD
      have hP9 := hP.sub (ws' := [(h0, .inr (8, [.ref w0, .ref w1, .ref w2, .int z_3, .ref w3, .ref w4, .ref w5, .int s7, .int s8])), (w0, .inl (k0, 24, .inl (upd f0 (Int32.toNatClampNeg s3) v1))), (w1, .inl (k1, 24, .inl (upd f1 (Int32.toNatClampNeg s3) v2))), (w2, .inl (k2, 24, .inl (upd f2 (Int32.toNatClampNeg s3) s8)))]) [0, 1, 2, 3] rfl
      have hD9 := hD.sub (ws' := [(h0, .inr (8, [.ref w0, .ref w1, .ref w2, .int z_3, .ref w3, .ref w4, .ref w5, .int s7, .int s8])), (w0, .inl (k0, 24, .inl (upd f0 (Int32.toNatClampNeg s3) v1))), (w1, .inl (k1, 24, .inl (upd f1 (Int32.toNatClampNeg s3) v2))), (w2, .inl (k2, 24, .inl (upd f2 (Int32.toNatClampNeg s3) s8)))]) [0, 1, 2, 3] (by decide) rfl
      have hK9 := hK.sub (tys' := []) [] rfl
      exact W.vret hx hb hr (fun t ht hW => ⟨⟨((fun _ => 0), (fun _ => (dC 0)), (fun k => ([upd f0 (Int32.toNatClampNeg s3) v1, upd f1 (Int32.toNatClampNeg s3) v2, upd f2 (Int32.toNatClampNeg s3) s8, (fun _ => 0), (fun _ => 0), (fun _ => 0), (fun _ => z_3), (fun _ => s7), (fun _ => s8)] : List (Nat → Int32)).getD k (fun _ => 0)), (fun _ => (fun _ => none))), rfl, trivial, by rw [ht]; exact hP9, hD9, va_K.moved hW.alike hK9, (by show upd f0 (Int32.toNatClampNeg s3) v1 = bnF s3 f0 v1; (subst_vars; first | rfl | ((try simp only [aN, aF, st8, st17, wrOr, gvAt, bdOr, rbF, bnN, bnM, bnF, frN, ctN, caN, caB, caA, hAt, cAt, nb1, nb0]); first | rfl | (rw [if_pos (by omega)]; done) | (rw [if_neg (by omega)]; done) | (rw [if_pos (by omega)]; rfl) | (rw [if_neg (by omega)]; rfl)))), (by show upd f1 (Int32.toNatClampNeg s3) v2 = bnF s3 f1 v2; (subst_vars; first | rfl | ((try simp only [aN, aF, st8, st17, wrOr, gvAt, bdOr, rbF, bnN, bnM, bnF, frN, ctN, caN, caB, caA, hAt, cAt, nb1, nb0]); first | rfl | (rw [if_pos (by omega)]; done) | (rw [if_neg (by omega)]; done) | (rw [if_pos (by omega)]; rfl) | (rw [if_neg (by omega)]; rfl)))), (by show upd f2 (Int32.toNatClampNeg s3) s8 = bnF s3 f2 s8; (subst_vars; first | rfl | ((try simp only [aN, aF, st8, st17, wrOr, gvAt, bdOr, rbF, bnN, bnM, bnF, frN, ctN, caN, caB, caA, hAt, cAt, nb1, nb0]); first | rfl | (rw [if_pos (by omega)]; done) | (rw [if_neg (by omega)]; done) | (rw [if_pos (by omega)]; rfl) | (rw [if_neg (by omega)]; rfl)))), (by show z_3 = bnN s3; (subst_vars; first | rfl | ((try simp only [aN, aF, st8, st17, wrOr, gvAt, bdOr, rbF, bnN, bnM, bnF, frN, ctN, caN, caB, caA, hAt, cAt, nb1, nb0]); first | rfl | (rw [if_pos (by omega)]; done) | (rw [if_neg (by omega)]; done) | (rw [if_pos (by omega)]; rfl) | (rw [if_neg (by omega)]; rfl)))), (by show s7 = s7; (subst_vars; first | rfl | ((try simp only [aN, aF, st8, st17, wrOr, gvAt, bdOr, rbF, bnN, bnM, bnF, frN, ctN, caN, caB, caA, hAt, cAt, nb1, nb0]); first | rfl | (rw [if_pos (by omega)]; done) | (rw [if_neg (by omega)]; done) | (rw [if_pos (by omega)]; rfl) | (rw [if_neg (by omega)]; rfl)))), (by show s8 = s8; (subst_vars; first | rfl | ((try simp only [aN, aF, st8, st17, wrOr, gvAt, bdOr, rbF, bnN, bnM, bnF, frN, ctN, caN, caB, caA, hAt, cAt, nb1, nb0]); first | rfl | (rw [if_pos (by omega)]; done) | (rw [if_neg (by omega)]; done) | (rw [if_pos (by omega)]; rfl) | (rw [if_neg (by omega)]; rfl))))⟩, hS.F ht⟩) hS.2.2 dX8_bind_60
    · simp only [i_lt, i_le, i_eq, ti_24] at c_2
      have hP9 := hP.sub (ws' := [(h0, .inr (8, [.ref w0, .ref w1, .ref w2, .int s3, .ref w3, .ref w4, .ref w5, .int s7, .int s8])), (w0, .inl (k0, 24, .inl f0)), (w1, .inl (k1, 24, .inl f1)), (w2, .inl (k2, 24, .inl f2))]) [0, 1, 2, 3] rfl
      have hD9 := hD.sub (ws' := [(h0, .inr (8, [.ref w0, .ref w1, .ref w2, .int s3, .ref w3, .ref w4, .ref w5, .int s7, .int s8])), (w0, .inl (k0, 24, .inl f0)), (w1, .inl (k1, 24, .inl f1)), (w2, .inl (k2, 24, .inl f2))]) [0, 1, 2, 3] (by decide) rfl
      have hK9 := hK.sub (tys' := []) [] rfl
      exact W.vret hx hb hr (fun t ht hW => ⟨⟨((fun _ => 0), (fun _ => (dC 0)), (fun k => ([f0, f1, f2, (fun _ => 0), (fun _ => 0), (fun _ => 0), (fun _ => s3), (fun _ => s7), (fun _ => s8)] : List (Nat → Int32)).getD k (fun _ => 0)), (fun _ => (fun _ => none))), rfl, trivial, by rw [ht]; exact hP9, hD9, va_K.moved hW.alike hK9, (by show f0 = bnF s3 f0 v1; (subst_vars; first | rfl | ((try simp only [aN, aF, st8, st17, wrOr, gvAt, bdOr, rbF, bnN, bnM, bnF, frN, ctN, caN, caB, caA, hAt, cAt, nb1, nb0]); first | rfl | (rw [if_pos (by omega)]; done) | (rw [if_neg (by omega)]; done) | (rw [if_pos (by omega)]; rfl) | (rw [if_neg (by omega)]; rfl)))), (by show f1 = bnF s3 f1 v2; (subst_vars; first | rfl | ((try simp only [aN, aF, st8, st17, wrOr, gvAt, bdOr, rbF, bnN, bnM, bnF, frN, ctN, caN, caB, caA, hAt, cAt, nb1, nb0]); first | rfl | (rw [if_pos (by omega)]; done) | (rw [if_neg (by omega)]; done) | (rw [if_pos (by omega)]; rfl) | (rw [if_neg (by omega)]; rfl)))), (by show f2 = bnF s3 f2 s8; (subst_vars; first | rfl | ((try simp only [aN, aF, st8, st17, wrOr, gvAt, bdOr, rbF, bnN, bnM, bnF, frN, ctN, caN, caB, caA, hAt, cAt, nb1, nb0]); first | rfl | (rw [if_pos (by omega)]; done) | (rw [if_neg (by omega)]; done) | (rw [if_pos (by omega)]; rfl) | (rw [if_neg (by omega)]; rfl)))), (by show s3 = bnN s3; (subst_vars; first | rfl | ((try simp only [aN, aF, st8, st17, wrOr, gvAt, bdOr, rbF, bnN, bnM, bnF, frN, ctN, caN, caB, caA, hAt, cAt, nb1, nb0]); first | rfl | (rw [if_pos (by omega)]; done) | (rw [if_neg (by omega)]; done) | (rw [if_pos (by omega)]; rfl) | (rw [if_neg (by omega)]; rfl)))), (by show s7 = s7; (subst_vars; first | rfl | ((try simp only [aN, aF, st8, st17, wrOr, gvAt, bdOr, rbF, bnN, bnM, bnF, frN, ctN, caN, caB, caA, hAt, cAt, nb1, nb0]); first | rfl | (rw [if_pos (by omega)]; done) | (rw [if_neg (by omega)]; done) | (rw [if_pos (by omega)]; rfl) | (rw [if_neg (by omega)]; rfl)))), (by show s8 = s8; (subst_vars; first | rfl | ((try simp only [aN, aF, st8, st17, wrOr, gvAt, bdOr, rbF, bnN, bnM, bnF, frN, ctN, caN, caB, caA, hAt, cAt, nb1, nb0]); first | rfl | (rw [if_pos (by omega)]; done) | (rw [if_neg (by omega)]; done) | (rw [if_pos (by omega)]; rfl) | (rw [if_neg (by omega)]; rfl))))⟩, hS.F ht⟩) hS.2.2 dX8_bind_16

set_option maxHeartbeats 4000000 in
set_option maxRecDepth 100000 in
theorem c_X8_free (l : Launch) (dC : Nat → ClassId) (dI : Nat → Nat → Nat) (h0 : Nat) (w0 : Nat) (w1 : Nat) (w2 : Nat) (w3 : Nat) (w4 : Nat) (w5 : Nat) (k0 : ClassId) (f0 : Nat → Int32) (s3 : Int32) (s7 : Int32) (s8 : Int32) (v1 : Int32) (sz : Nat)  : Met l yX8_free (.code yX8_free cX8_free 3 (some .boolean) :: gw) ({ frames := 0, cells := 0, slots := 0, locals := 0 }) (va_Pc [.ref h0, .int v1] (fun U => U.heap.size = sz ∧ va_P (dC, dI) vwCl [(h0, .inr (8, [.ref w0, .ref w1, .ref w2, .int s3, .ref w3, .ref w4, .ref w5, .int s7, .int s8])), (w0, .inl (k0, 24, .inl f0))] U.heap ∧ va_K (dC, dI) vwCl [(k0, .int)] U ∧ va_D (fun _ => True) [(h0, .inr (8, [.ref w0, .ref w1, .ref w2, .int s3, .ref w3, .ref w4, .ref w5, .int s7, .int s8])), (w0, .inl (k0, 24, .inl f0))] ∧ nx U)) (va_Qi (fun (r : Int32) (u : wS) => (r = 1 ∧ frP s3 f0 v1) ∨ (r = 0 ∧ ¬ frP s3 f0 v1)) (fun u t => va_P (dC, dI) vwCl [(h0, .inr (8, [.ref w0, .ref w1, .ref w2, .int (u.2.2.1 6 0), .ref w3, .ref w4, .ref w5, .int (u.2.2.1 7 0), .int (u.2.2.1 8 0)])), (w0, .inl (k0, 24, .inl f0))] t.heap ∧ va_D (va_A [(h0, .inr (8, [.ref w0, .ref w1, .ref w2, .int s3, .ref w3, .ref w4, .ref w5, .int s7, .int s8])), (w0, .inl (k0, 24, .inl f0))] sz) [(h0, .inr (8, [.ref w0, .ref w1, .ref w2, .int (u.2.2.1 6 0), .ref w3, .ref w4, .ref w5, .int (u.2.2.1 7 0), .int (u.2.2.1 8 0)])), (w0, .inl (k0, 24, .inl f0))] ∧ va_K (dC, dI) vwCl [] t ∧ (u.2.2.1 6 0) = frN s3 f0 v1 ∧ (u.2.2.1 7 0) = s7 ∧ (u.2.2.1 8 0) = s8) (va_A [(h0, .inr (8, [.ref w0, .ref w1, .ref w2, .int s3, .ref w3, .ref w4, .ref w5, .int s7, .int s8])), (w0, .inl (k0, 24, .inl f0))] sz)) 0 0 (va_A [(h0, .inr (8, [.ref w0, .ref w1, .ref w2, .int s3, .ref w3, .ref w4, .ref w5, .int s7, .int s8])), (w0, .inl (k0, 24, .inl f0))] sz) := by
  refine Met.ofW (cc := cX8_free) (maxL := 3) (ret := (some .boolean)) (by decide) rfl ?_
  intro p e s m args below meth c s₁ B hml hv
  obtain ⟨rfl, hsz, hP, hK, hD0, hN⟩ := hv
  have hx := B.exec
  have hb := B.bytes
  have hr := B.returns
  have hts := atoms_spec (ws := .code yX8_free cX8_free 3 (some .boolean) :: gw) B.pre
  have hg : ∀ w ∈ gw, w.before _ s = true := fun w h => hts w (List.mem_cons_of_mem _ h)
  have hown : s.vm.findClass RX8 = some m.cls := findClass_of_methodNamed B.named
  have hlocks := B.notSynchronized
  subst hsz
  have hD := hD0.self (sz := s.heap.size)
  generalize hAe : va_A [(h0, .inr (8, [.ref w0, .ref w1, .ref w2, .int s3, .ref w3, .ref w4, .ref w5, .int s7, .int s8])), (w0, .inl (k0, 24, .inl f0))] s.heap.size = A at hD ⊢
  have hA : ∀ q : Nat, s.heap.size ≤ q → A q := fun q h => by rw [← hAe]; exact Or.inr h
  have hS : va_S A s.heap s.heap [] := va_S.rf
  have hP : va_P (dC, dI) vwCl [(h0, .inr (8, [.ref w0, .ref w1, .ref w2, .int s3, .ref w3, .ref w4, .ref w5, .int s7, .int s8])), (w0, .inl (k0, 24, .inl f0))] s.heap := hP
  have hl := lv_entry ([.ref h0, .int v1]) (n := 3) (Nat.le_of_ble_eq_true rfl)
  rw [lg_entry_eq]
  generalize (lg_sl ([.ref h0, .int v1]) ++ List.replicate (3 - (lg_sl ([.ref h0, .int v1])).length) Slot.unset).toArray = ls at hl ⊢
  have hl : lv_has ls 3 [(0, .ref h0), (1, .int v1)] := hl
  refine lv_aload_n hx hb dX8_free_0 rfl (lv_at hl 0 rfl) ?_
  refine va_get (D := (dC, dI)) (ci := 8) (v := .int s3) (C := RX8) (T := TX8) (N := 9) hx hb hg gb_8 hown hK hP 0 rfl rfl 3 (by decide) (hg _ gm_fieldLink_RX8_30_ErrandGuild_Scopes_bindings_I_) (fun _ h9 => h9) rfl dX8_free_1 ?_
  refine lv_iconst (v := 1) hx hb dX8_free_4 (by decide) ?_
  refine lv_isub hx hb dX8_free_5 ?_
  refine lv_topi (fun z_1 ez_1 => ?_)
  refine lv_istore_n (lv' := [(2, .int z_1), (0, .ref h0), (1, .int v1)]) hx hb dX8_free_6 rfl hl (by decide) rfl (fun ls hl => ?_)
  refine lv_iload_n hx hb dX8_free_7 rfl (lv_at hl 0 rfl) ?_
  refine lv_if_lt (tgt := 27) hx hb dX8_free_8 (by decide) (fun c_2 => ?_) (fun c_2 => ?_)
  · simp only [i_lt, i_le, i_eq, ti_0] at c_2
    refine lv_iconst (v := 0) hx hb dX8_free_27 (by decide) ?_
    have hP9 := hP.sub (ws' := [(h0, .inr (8, [.ref w0, .ref w1, .ref w2, .int s3, .ref w3, .ref w4, .ref w5, .int s7, .int s8])), (w0, .inl (k0, 24, .inl f0))]) [0, 1] rfl
    have hD9 := hD.sub (ws' := [(h0, .inr (8, [.ref w0, .ref w1, .ref w2, .int s3, .ref w3, .ref w4, .ref w5, .int s7, .int s8])), (w0, .inl (k0, 24, .inl f0))]) [0, 1] (by decide) rfl
    have hK9 := hK.sub (tys' := []) [] rfl
    exact W.zret (v := 0) hx hb hr rfl (fun t ht hW => ⟨⟨0, ((fun _ => 0), (fun _ => (dC 0)), (fun k => ([(fun _ => 0), (fun _ => 0), (fun _ => 0), (fun _ => 0), (fun _ => 0), (fun _ => 0), (fun _ => s3), (fun _ => s7), (fun _ => s8)] : List (Nat → Int32)).getD k (fun _ => 0)), (fun _ => (fun _ => none))), rfl, (Or.inr ⟨rfl, (by unfold frP; subst_vars; omega)⟩), by rw [ht]; exact hP9, hD9, va_K.moved hW.alike hK9, (by show s3 = frN s3 f0 v1; (subst_vars; first | rfl | ((try simp only [aN, aF, st8, st17, wrOr, gvAt, bdOr, rbF, bnN, bnM, bnF, frN, ctN, caN, caB, caA, hAt, cAt, nb1, nb0]); first | rfl | (rw [if_pos (by omega)]; done) | (rw [if_neg (by omega)]; done) | (rw [if_pos (by omega)]; rfl) | (rw [if_neg (by omega)]; rfl)))), (by show s7 = s7; (subst_vars; first | rfl | ((try simp only [aN, aF, st8, st17, wrOr, gvAt, bdOr, rbF, bnN, bnM, bnF, frN, ctN, caN, caB, caA, hAt, cAt, nb1, nb0]); first | rfl | (rw [if_pos (by omega)]; done) | (rw [if_neg (by omega)]; done) | (rw [if_pos (by omega)]; rfl) | (rw [if_neg (by omega)]; rfl)))), (by show s8 = s8; (subst_vars; first | rfl | ((try simp only [aN, aF, st8, st17, wrOr, gvAt, bdOr, rbF, bnN, bnM, bnF, frN, ctN, caN, caB, caA, hAt, cAt, nb1, nb0]); first | rfl | (rw [if_pos (by omega)]; done) | (rw [if_neg (by omega)]; done) | (rw [if_pos (by omega)]; rfl) | (rw [if_neg (by omega)]; rfl))))⟩, hS.F ht⟩) hS.2.2 dX8_free_28
  · simp only [i_lt, i_le, i_eq, ti_0] at c_2
    refine lv_iload_n hx hb dX8_free_11 rfl (lv_at hl 0 rfl) ?_
    refine lv_bipush (v := 24) hx hb dX8_free_12 (by decide) ?_
    refine lv_icmp_ge (tgt := 27) hx hb dX8_free_14 (by decide) (fun c_3 => ?_) (fun c_3 => ?_)
    · simp only [i_lt, i_le, i_eq, ti_24] at c_3
      refine lv_iconst (v := 0) hx hb dX8_free_27 (by decide) ?_
      have hP9 := hP.sub (ws' := [(h0, .inr (8, [.ref w0, .ref w1, .ref w2, .int s3, .ref w3, .ref w4, .ref w5, .int s7, .int s8])), (w0, .inl (k0, 24, .inl f0))]) [0, 1] rfl
      have hD9 := hD.sub (ws' := [(h0, .inr (8, [.ref w0, .ref w1, .ref w2, .int s3, .ref w3, .ref w4, .ref w5, .int s7, .int s8])), (w0, .inl (k0, 24, .inl f0))]) [0, 1] (by decide) rfl
      have hK9 := hK.sub (tys' := []) [] rfl
      exact W.zret (v := 0) hx hb hr rfl (fun t ht hW => ⟨⟨0, ((fun _ => 0), (fun _ => (dC 0)), (fun k => ([(fun _ => 0), (fun _ => 0), (fun _ => 0), (fun _ => 0), (fun _ => 0), (fun _ => 0), (fun _ => s3), (fun _ => s7), (fun _ => s8)] : List (Nat → Int32)).getD k (fun _ => 0)), (fun _ => (fun _ => none))), rfl, (Or.inr ⟨rfl, (by unfold frP; subst_vars; omega)⟩), by rw [ht]; exact hP9, hD9, va_K.moved hW.alike hK9, (by show s3 = frN s3 f0 v1; (subst_vars; first | rfl | ((try simp only [aN, aF, st8, st17, wrOr, gvAt, bdOr, rbF, bnN, bnM, bnF, frN, ctN, caN, caB, caA, hAt, cAt, nb1, nb0]); first | rfl | (rw [if_pos (by omega)]; done) | (rw [if_neg (by omega)]; done) | (rw [if_pos (by omega)]; rfl) | (rw [if_neg (by omega)]; rfl)))), (by show s7 = s7; (subst_vars; first | rfl | ((try simp only [aN, aF, st8, st17, wrOr, gvAt, bdOr, rbF, bnN, bnM, bnF, frN, ctN, caN, caB, caA, hAt, cAt, nb1, nb0]); first | rfl | (rw [if_pos (by omega)]; done) | (rw [if_neg (by omega)]; done) | (rw [if_pos (by omega)]; rfl) | (rw [if_neg (by omega)]; rfl)))), (by show s8 = s8; (subst_vars; first | rfl | ((try simp only [aN, aF, st8, st17, wrOr, gvAt, bdOr, rbF, bnN, bnM, bnF, frN, ctN, caN, caB, caA, hAt, cAt, nb1, nb0]); first | rfl | (rw [if_pos (by omega)]; done) | (rw [if_neg (by omega)]; done) | (rw [if_pos (by omega)]; rfl) | (rw [if_neg (by omega)]; rfl))))⟩, hS.F ht⟩) hS.2.2 dX8_free_28
    · simp only [i_lt, i_le, i_eq, ti_24] at c_3
      refine lv_aload_n hx hb dX8_free_17 rfl (lv_at hl 1 rfl) ?_
      refine va_get (D := (dC, dI)) (ci := 8) (v := .ref w0) (C := RX8) (T := TX8) (N := 9) hx hb hg gb_8 hown hK hP 0 rfl rfl 0 (by decide) (hg _ gm_fieldLink_RX8_9_ErrandGuild_Scopes_bindingSlots_AI_) (fun _ h9 => h9) rfl dX8_free_18 ?_
      refine lv_iload_n hx hb dX8_free_21 rfl (lv_at hl 0 rfl) ?_
      refine va_iald hx hb hK hP 1 0 rfl rfl (vp_in_iff.mpr ⟨by omega, by omega⟩) dX8_free_22 ?_
      refine lv_topi (fun z_4 ez_4 => ?_)
      refine lv_iload_n hx hb dX8_free_23 rfl (lv_at hl 2 rfl) ?_
      refine lv_icmp_eq (tgt := 29) hx hb dX8_free_24 (by decide) (fun c_5 => ?_) (fun c_5 => ?_)
      · simp only [i_lt, i_le, i_eq] at c_5
        refine lv_aload_n hx hb dX8_free_29 rfl (lv_at hl 1 rfl) ?_
        refine lv_iload_n hx hb dX8_free_30 rfl (lv_at hl 0 rfl) ?_
        refine va_put (D := (dC, dI)) (ci := 8) (v := .int z_1) (ty := .int) (C := RX8) (T := TX8) (N := 9) hx hb hg gb_8 tyX8 tyX8_ok nmX8 hown hK hP hD hS 0 rfl rfl 3 (by decide) (hg _ gm_fieldLink_RX8_30_ErrandGuild_Scopes_bindings_I_) (fun _ h9 => h9) rfl (by decide +kernel) rfl rfl (Nat.le_of_ble_eq_true rfl) dX8_free_31 (fun H locs hP hD hS => ?_)
        have hP : va_P (dC, dI) vwCl [(h0, .inr (8, [.ref w0, .ref w1, .ref w2, .int z_1, .ref w3, .ref w4, .ref w5, .int s7, .int s8])), (w0, .inl (k0, 24, .inl f0))] H := hP
        have hD : va_D A [(h0, .inr (8, [.ref w0, .ref w1, .ref w2, .int z_1, .ref w3, .ref w4, .ref w5, .int s7, .int s8])), (w0, .inl (k0, 24, .inl f0))] := hD
        refine lv_iconst (v := 1) hx hb dX8_free_34 (by decide) ?_
        have hP9 := hP.sub (ws' := [(h0, .inr (8, [.ref w0, .ref w1, .ref w2, .int z_1, .ref w3, .ref w4, .ref w5, .int s7, .int s8])), (w0, .inl (k0, 24, .inl f0))]) [0, 1] rfl
        have hD9 := hD.sub (ws' := [(h0, .inr (8, [.ref w0, .ref w1, .ref w2, .int z_1, .ref w3, .ref w4, .ref w5, .int s7, .int s8])), (w0, .inl (k0, 24, .inl f0))]) [0, 1] (by decide) rfl
        have hK9 := hK.sub (tys' := []) [] rfl
        exact W.zret (v := 1) hx hb hr rfl (fun t ht hW => ⟨⟨1, ((fun _ => 0), (fun _ => (dC 0)), (fun k => ([(fun _ => 0), (fun _ => 0), (fun _ => 0), (fun _ => 0), (fun _ => 0), (fun _ => 0), (fun _ => z_1), (fun _ => s7), (fun _ => s8)] : List (Nat → Int32)).getD k (fun _ => 0)), (fun _ => (fun _ => none))), rfl, (Or.inl ⟨rfl, (by unfold frP; subst_vars; omega)⟩), by rw [ht]; exact hP9, hD9, va_K.moved hW.alike hK9, (by show z_1 = frN s3 f0 v1; (subst_vars; first | rfl | ((try simp only [aN, aF, st8, st17, wrOr, gvAt, bdOr, rbF, bnN, bnM, bnF, frN, ctN, caN, caB, caA, hAt, cAt, nb1, nb0]); first | rfl | (rw [if_pos (by omega)]; done) | (rw [if_neg (by omega)]; done) | (rw [if_pos (by omega)]; rfl) | (rw [if_neg (by omega)]; rfl)))), (by show s7 = s7; (subst_vars; first | rfl | ((try simp only [aN, aF, st8, st17, wrOr, gvAt, bdOr, rbF, bnN, bnM, bnF, frN, ctN, caN, caB, caA, hAt, cAt, nb1, nb0]); first | rfl | (rw [if_pos (by omega)]; done) | (rw [if_neg (by omega)]; done) | (rw [if_pos (by omega)]; rfl) | (rw [if_neg (by omega)]; rfl)))), (by show s8 = s8; (subst_vars; first | rfl | ((try simp only [aN, aF, st8, st17, wrOr, gvAt, bdOr, rbF, bnN, bnM, bnF, frN, ctN, caN, caB, caA, hAt, cAt, nb1, nb0]); first | rfl | (rw [if_pos (by omega)]; done) | (rw [if_neg (by omega)]; done) | (rw [if_pos (by omega)]; rfl) | (rw [if_neg (by omega)]; rfl))))⟩, hS.F ht⟩) hS.2.2 dX8_free_35
      · simp only [i_lt, i_le, i_eq] at c_5
        refine lv_iconst (v := 0) hx hb dX8_free_27 (by decide) ?_
        have hP9 := hP.sub (ws' := [(h0, .inr (8, [.ref w0, .ref w1, .ref w2, .int s3, .ref w3, .ref w4, .ref w5, .int s7, .int s8])), (w0, .inl (k0, 24, .inl f0))]) [0, 1] rfl
        have hD9 := hD.sub (ws' := [(h0, .inr (8, [.ref w0, .ref w1, .ref w2, .int s3, .ref w3, .ref w4, .ref w5, .int s7, .int s8])), (w0, .inl (k0, 24, .inl f0))]) [0, 1] (by decide) rfl
        have hK9 := hK.sub (tys' := []) [] rfl
        exact W.zret (v := 0) hx hb hr rfl (fun t ht hW => ⟨⟨0, ((fun _ => 0), (fun _ => (dC 0)), (fun k => ([(fun _ => 0), (fun _ => 0), (fun _ => 0), (fun _ => 0), (fun _ => 0), (fun _ => 0), (fun _ => s3), (fun _ => s7), (fun _ => s8)] : List (Nat → Int32)).getD k (fun _ => 0)), (fun _ => (fun _ => none))), rfl, (Or.inr ⟨rfl, (by unfold frP; subst_vars; omega)⟩), by rw [ht]; exact hP9, hD9, va_K.moved hW.alike hK9, (by show s3 = frN s3 f0 v1; (subst_vars; first | rfl | ((try simp only [aN, aF, st8, st17, wrOr, gvAt, bdOr, rbF, bnN, bnM, bnF, frN, ctN, caN, caB, caA, hAt, cAt, nb1, nb0]); first | rfl | (rw [if_pos (by omega)]; done) | (rw [if_neg (by omega)]; done) | (rw [if_pos (by omega)]; rfl) | (rw [if_neg (by omega)]; rfl)))), (by show s7 = s7; (subst_vars; first | rfl | ((try simp only [aN, aF, st8, st17, wrOr, gvAt, bdOr, rbF, bnN, bnM, bnF, frN, ctN, caN, caB, caA, hAt, cAt, nb1, nb0]); first | rfl | (rw [if_pos (by omega)]; done) | (rw [if_neg (by omega)]; done) | (rw [if_pos (by omega)]; rfl) | (rw [if_neg (by omega)]; rfl)))), (by show s8 = s8; (subst_vars; first | rfl | ((try simp only [aN, aF, st8, st17, wrOr, gvAt, bdOr, rbF, bnN, bnM, bnF, frN, ctN, caN, caB, caA, hAt, cAt, nb1, nb0]); first | rfl | (rw [if_pos (by omega)]; done) | (rw [if_neg (by omega)]; done) | (rw [if_pos (by omega)]; rfl) | (rw [if_neg (by omega)]; rfl))))⟩, hS.F ht⟩) hS.2.2 dX8_free_28

set_option maxHeartbeats 4000000 in
set_option maxRecDepth 100000 in
theorem c_X8_openTry (l : Launch) (dC : Nat → ClassId) (dI : Nat → Nat → Nat) (h0 : Nat) (w0 : Nat) (w1 : Nat) (w2 : Nat) (w3 : Nat) (w4 : Nat) (w5 : Nat) (k3 : ClassId) (k4 : ClassId) (k5 : ClassId) (f3 : Nat → Int32) (f4 : Nat → Int32) (f5 : Nat → Int32) (s3 : Int32) (s7 : Int32) (s8 : Int32) (v1 : Int32) (v2 : Int32) (sz : Nat)  : Met l yX8_openTry (.code yX8_openTry cX8_openTry 3 none :: gw) ({ frames := 0, cells := 0, slots := 0, locals := 0 }) (va_Pc [.ref h0, .int v1, .int v2] (fun U => U.heap.size = sz ∧ va_P (dC, dI) vwCl [(h0, .inr (8, [.ref w0, .ref w1, .ref w2, .int s3, .ref w3, .ref w4, .ref w5, .int s7, .int s8])), (w3, .inl (k3, 24, .inl f3)), (w4, .inl (k4, 24, .inl f4)), (w5, .inl (k5, 24, .inl f5))] U.heap ∧ va_K (dC, dI) vwCl [(k3, .int), (k4, .int), (k5, .int)] U ∧ va_D (fun _ => True) [(h0, .inr (8, [.ref w0, .ref w1, .ref w2, .int s3, .ref w3, .ref w4, .ref w5, .int s7, .int s8])), (w3, .inl (k3, 24, .inl f3)), (w4, .inl (k4, 24, .inl f4)), (w5, .inl (k5, 24, .inl f5))] ∧ nx U)) (va_Qv (fun (u : wS) => True) (fun u t => va_P (dC, dI) vwCl [(h0, .inr (8, [.ref w0, .ref w1, .ref w2, .int (u.2.2.1 6 0), .ref w3, .ref w4, .ref w5, .int (u.2.2.1 7 0), .int (u.2.2.1 8 0)])), (w3, .inl (k3, 24, .inl (u.2.2.1 3))), (w4, .inl (k4, 24, .inl (u.2.2.1 4))), (w5, .inl (k5, 24, .inl (u.2.2.1 5)))] t.heap ∧ va_D (va_A [(h0, .inr (8, [.ref w0, .ref w1, .ref w2, .int s3, .ref w3, .ref w4, .ref w5, .int s7, .int s8])), (w3, .inl (k3, 24, .inl f3)), (w4, .inl (k4, 24, .inl f4)), (w5, .inl (k5, 24, .inl f5))] sz) [(h0, .inr (8, [.ref w0, .ref w1, .ref w2, .int (u.2.2.1 6 0), .ref w3, .ref w4, .ref w5, .int (u.2.2.1 7 0), .int (u.2.2.1 8 0)])), (w3, .inl (k3, 24, .inl (u.2.2.1 3))), (w4, .inl (k4, 24, .inl (u.2.2.1 4))), (w5, .inl (k5, 24, .inl (u.2.2.1 5)))] ∧ va_K (dC, dI) vwCl [] t ∧ (u.2.2.1 3) = bnF s7 f3 v1 ∧ (u.2.2.1 4) = bnF s7 f4 v2 ∧ (u.2.2.1 5) = bnF s7 f5 s8 ∧ (u.2.2.1 6 0) = s3 ∧ (u.2.2.1 7 0) = bnN s7 ∧ (u.2.2.1 8 0) = bnM s7 s8) (va_A [(h0, .inr (8, [.ref w0, .ref w1, .ref w2, .int s3, .ref w3, .ref w4, .ref w5, .int s7, .int s8])), (w3, .inl (k3, 24, .inl f3)), (w4, .inl (k4, 24, .inl f4)), (w5, .inl (k5, 24, .inl f5))] sz)) 0 0 (va_A [(h0, .inr (8, [.ref w0, .ref w1, .ref w2, .int s3, .ref w3, .ref w4, .ref w5, .int s7, .int s8])), (w3, .inl (k3, 24, .inl f3)), (w4, .inl (k4, 24, .inl f4)), (w5, .inl (k5, 24, .inl f5))] sz) := by
  refine Met.ofW (cc := cX8_openTry) (maxL := 3) (ret := none) (by decide) rfl ?_
  intro p e s m args below meth c s₁ B hml hv
  obtain ⟨rfl, hsz, hP, hK, hD0, hN⟩ := hv
  have hx := B.exec
  have hb := B.bytes
  have hr := B.returns
  have hts := atoms_spec (ws := .code yX8_openTry cX8_openTry 3 none :: gw) B.pre
  have hg : ∀ w ∈ gw, w.before _ s = true := fun w h => hts w (List.mem_cons_of_mem _ h)
  have hown : s.vm.findClass RX8 = some m.cls := findClass_of_methodNamed B.named
  have hlocks := B.notSynchronized
  subst hsz
  have hD := hD0.self (sz := s.heap.size)
  generalize hAe : va_A [(h0, .inr (8, [.ref w0, .ref w1, .ref w2, .int s3, .ref w3, .ref w4, .ref w5, .int s7, .int s8])), (w3, .inl (k3, 24, .inl f3)), (w4, .inl (k4, 24, .inl f4)), (w5, .inl (k5, 24, .inl f5))] s.heap.size = A at hD ⊢
  have hA : ∀ q : Nat, s.heap.size ≤ q → A q := fun q h => by rw [← hAe]; exact Or.inr h
  have hS : va_S A s.heap s.heap [] := va_S.rf
  have hP : va_P (dC, dI) vwCl [(h0, .inr (8, [.ref w0, .ref w1, .ref w2, .int s3, .ref w3, .ref w4, .ref w5, .int s7, .int s8])), (w3, .inl (k3, 24, .inl f3)), (w4, .inl (k4, 24, .inl f4)), (w5, .inl (k5, 24, .inl f5))] s.heap := hP
  have hl := lv_entry ([.ref h0, .int v1, .int v2]) (n := 3) (Nat.le_of_ble_eq_true rfl)
  rw [lg_entry_eq]
  generalize (lg_sl ([.ref h0, .int v1, .int v2]) ++ List.replicate (3 - (lg_sl ([.ref h0, .int v1, .int v2])).length) Slot.unset).toArray = ls at hl ⊢
  have hl : lv_has ls 3 [(0, .ref h0), (1, .int v1), (2, .int v2)] := hl
  refine lv_aload_n hx hb dX8_openTry_0 rfl (lv_at hl 0 rfl) ?_
  refine va_get (D := (dC, dI)) (ci := 8) (v := .int s7) (C := RX8) (T := TX8) (N := 9) hx hb hg gb_8 hown hK hP 0 rfl rfl 7 (by decide) (hg _ gm_fieldLink_RX8_34_ErrandGuild_Scopes_tries_I_) (fun _ h9 => h9) rfl dX8_openTry_1 ?_
  refine lv_if_lt (tgt := 16) hx hb dX8_openTry_4 (by decide) (fun c_1 => ?_) (fun c_1 => ?_)
  · simp only [i_lt, i_le, i_eq, ti_0] at c_1
    have hP9 := hP.sub (ws' := [(h0, .inr (8, [.ref w0, .ref w1, .ref w2, .int s3, .ref w3, .ref w4, .ref w5, .int s7, .int s8])), (w3, .inl (k3, 24, .inl f3)), (w4, .inl (k4, 24, .inl f4)), (w5, .inl (k5, 24, .inl f5))]) [0, 1, 2, 3] rfl
    have hD9 := hD.sub (ws' := [(h0, .inr (8, [.ref w0, .ref w1, .ref w2, .int s3, .ref w3, .ref w4, .ref w5, .int s7, .int s8])), (w3, .inl (k3, 24, .inl f3)), (w4, .inl (k4, 24, .inl f4)), (w5, .inl (k5, 24, .inl f5))]) [0, 1, 2, 3] (by decide) rfl
    have hK9 := hK.sub (tys' := []) [] rfl
    exact W.vret hx hb hr (fun t ht hW => ⟨⟨((fun _ => 0), (fun _ => (dC 0)), (fun k => ([(fun _ => 0), (fun _ => 0), (fun _ => 0), f3, f4, f5, (fun _ => s3), (fun _ => s7), (fun _ => s8)] : List (Nat → Int32)).getD k (fun _ => 0)), (fun _ => (fun _ => none))), rfl, trivial, by rw [ht]; exact hP9, hD9, va_K.moved hW.alike hK9, (by show f3 = bnF s7 f3 v1; (subst_vars; first | rfl | ((try simp only [aN, aF, st8, st17, wrOr, gvAt, bdOr, rbF, bnN, bnM, bnF, frN, ctN, caN, caB, caA, hAt, cAt, nb1, nb0]); first | rfl | (rw [if_pos (by omega)]; done) | (rw [if_neg (by omega)]; done) | (rw [if_pos (by omega)]; rfl) | (rw [if_neg (by omega)]; rfl)))), (by show f4 = bnF s7 f4 v2; (subst_vars; first | rfl | ((try simp only [aN, aF, st8, st17, wrOr, gvAt, bdOr, rbF, bnN, bnM, bnF, frN, ctN, caN, caB, caA, hAt, cAt, nb1, nb0]); first | rfl | (rw [if_pos (by omega)]; done) | (rw [if_neg (by omega)]; done) | (rw [if_pos (by omega)]; rfl) | (rw [if_neg (by omega)]; rfl)))), (by show f5 = bnF s7 f5 s8; (subst_vars; first | rfl | ((try simp only [aN, aF, st8, st17, wrOr, gvAt, bdOr, rbF, bnN, bnM, bnF, frN, ctN, caN, caB, caA, hAt, cAt, nb1, nb0]); first | rfl | (rw [if_pos (by omega)]; done) | (rw [if_neg (by omega)]; done) | (rw [if_pos (by omega)]; rfl) | (rw [if_neg (by omega)]; rfl)))), (by show s3 = s3; (subst_vars; first | rfl | ((try simp only [aN, aF, st8, st17, wrOr, gvAt, bdOr, rbF, bnN, bnM, bnF, frN, ctN, caN, caB, caA, hAt, cAt, nb1, nb0]); first | rfl | (rw [if_pos (by omega)]; done) | (rw [if_neg (by omega)]; done) | (rw [if_pos (by omega)]; rfl) | (rw [if_neg (by omega)]; rfl)))), (by show s7 = bnN s7; (subst_vars; first | rfl | ((try simp only [aN, aF, st8, st17, wrOr, gvAt, bdOr, rbF, bnN, bnM, bnF, frN, ctN, caN, caB, caA, hAt, cAt, nb1, nb0]); first | rfl | (rw [if_pos (by omega)]; done) | (rw [if_neg (by omega)]; done) | (rw [if_pos (by omega)]; rfl) | (rw [if_neg (by omega)]; rfl)))), (by show s8 = bnM s7 s8; (subst_vars; first | rfl | ((try simp only [aN, aF, st8, st17, wrOr, gvAt, bdOr, rbF, bnN, bnM, bnF, frN, ctN, caN, caB, caA, hAt, cAt, nb1, nb0]); first | rfl | (rw [if_pos (by omega)]; done) | (rw [if_neg (by omega)]; done) | (rw [if_pos (by omega)]; rfl) | (rw [if_neg (by omega)]; rfl))))⟩, hS.F ht⟩) hS.2.2 dX8_openTry_16
  · simp only [i_lt, i_le, i_eq, ti_0] at c_1
    refine lv_aload_n hx hb dX8_openTry_7 rfl (lv_at hl 0 rfl) ?_
    refine va_get (D := (dC, dI)) (ci := 8) (v := .int s7) (C := RX8) (T := TX8) (N := 9) hx hb hg gb_8 hown hK hP 0 rfl rfl 7 (by decide) (hg _ gm_fieldLink_RX8_34_ErrandGuild_Scopes_tries_I_) (fun _ h9 => h9) rfl dX8_openTry_8 ?_
    refine lv_bipush (v := 24) hx hb dX8_openTry_11 (by decide) ?_
    refine lv_icmp_lt (tgt := 17) hx hb dX8_openTry_13 (by decide) (fun c_2 => ?_) (fun c_2 => ?_)
    · simp only [i_lt, i_le, i_eq, ti_24] at c_2
      refine lv_aload_n hx hb dX8_openTry_17 rfl (lv_at hl 0 rfl) ?_
      refine va_get (D := (dC, dI)) (ci := 8) (v := .ref w3) (C := RX8) (T := TX8) (N := 9) hx hb hg gb_8 hown hK hP 0 rfl rfl 4 (by decide) (hg _ gm_fieldLink_RX8_21_ErrandGuild_Scopes_tryKinds_AI_) (fun _ h9 => h9) rfl dX8_openTry_18 ?_
      refine lv_aload_n hx hb dX8_openTry_21 rfl (lv_at hl 0 rfl) ?_
      refine va_get (D := (dC, dI)) (ci := 8) (v := .int s7) (C := RX8) (T := TX8) (N := 9) hx hb hg gb_8 hown hK hP 0 rfl rfl 7 (by decide) (hg _ gm_fieldLink_RX8_34_ErrandGuild_Scopes_tries_I_) (fun _ h9 => h9) rfl dX8_openTry_22 ?_
      refine lv_iload_n hx hb dX8_openTry_25 rfl (lv_at hl 1 rfl) ?_
      refine va_iast hx hb hK hP hD hS 1 0 rfl rfl (vp_in_iff.mpr ⟨by omega, by omega⟩) dX8_openTry_26 (fun H locs hP hD hS => ?_)
      have hP : va_P (dC, dI) vwCl [(h0, .inr (8, [.ref w0, .ref w1, .ref w2, .int s3, .ref w3, .ref w4, .ref w5, .int s7, .int s8])), (w3, .inl (k3, 24, .inl (upd f3 (Int32.toNatClampNeg s7) v1))), (w4, .inl (k4, 24, .inl f4)), (w5, .inl (k5, 24, .inl f5))] H := hP
      have hD : va_D A [(h0, .inr (8, [.ref w0, .ref w1, .ref w2, .int s3, .ref w3, .ref w4, .ref w5, .int s7, .int s8])), (w3, .inl (k3, 24, .inl (upd f3 (Int32.toNatClampNeg s7) v1))), (w4, .inl (k4, 24, .inl f4)), (w5, .inl (k5, 24, .inl f5))] := hD
      refine lv_aload_n hx hb dX8_openTry_27 rfl (lv_at hl 0 rfl) ?_
      refine va_get (D := (dC, dI)) (ci := 8) (v := .ref w4) (C := RX8) (T := TX8) (N := 9) hx hb hg gb_8 hown hK hP 0 rfl rfl 5 (by decide) (hg _ gm_fieldLink_RX8_24_ErrandGuild_Scopes_tryPlaces_AI_) (fun _ h9 => h9) rfl dX8_openTry_28 ?_
      refine lv_aload_n hx hb dX8_openTry_31 rfl (lv_at hl 0 rfl) ?_
      refine va_get (D := (dC, dI)) (ci := 8) (v := .int s7) (C := RX8) (T := TX8) (N := 9) hx hb hg gb_8 hown hK hP 0 rfl rfl 7 (by decide) (hg _ gm_fieldLink_RX8_34_ErrandGuild_Scopes_tries_I_) (fun _ h9 => h9) rfl dX8_openTry_32 ?_
      refine lv_iload_n hx hb dX8_openTry_35 rfl (lv_at hl 2 rfl) ?_
      refine va_iast hx hb hK hP hD hS 2 1 rfl rfl (vp_in_iff.mpr ⟨by omega, by omega⟩) dX8_openTry_36 (fun H locs hP hD hS => ?_)
      have hP : va_P (dC, dI) vwCl [(h0, .inr (8, [.ref w0, .ref w1, .ref w2, .int s3, .ref w3, .ref w4, .ref w5, .int s7, .int s8])), (w3, .inl (k3, 24, .inl (upd f3 (Int32.toNatClampNeg s7) v1))), (w4, .inl (k4, 24, .inl (upd f4 (Int32.toNatClampNeg s7) v2))), (w5, .inl (k5, 24, .inl f5))] H := hP
      have hD : va_D A [(h0, .inr (8, [.ref w0, .ref w1, .ref w2, .int s3, .ref w3, .ref w4, .ref w5, .int s7, .int s8])), (w3, .inl (k3, 24, .inl (upd f3 (Int32.toNatClampNeg s7) v1))), (w4, .inl (k4, 24, .inl (upd f4 (Int32.toNatClampNeg s7) v2))), (w5, .inl (k5, 24, .inl f5))] := hD
      refine lv_aload_n hx hb dX8_openTry_37 rfl (lv_at hl 0 rfl) ?_
      refine va_get (D := (dC, dI)) (ci := 8) (v := .ref w5) (C := RX8) (T := TX8) (N := 9) hx hb hg gb_8 hown hK hP 0 rfl rfl 6 (by decide) (hg _ gm_fieldLink_RX8_27_ErrandGuild_Scopes_tryMarks_AI_) (fun _ h9 => h9) rfl dX8_openTry_38 ?_
      refine lv_aload_n hx hb dX8_openTry_41 rfl (lv_at hl 0 rfl) ?_
      refine va_get (D := (dC, dI)) (ci := 8) (v := .int s7) (C := RX8) (T := TX8) (N := 9) hx hb hg gb_8 hown hK hP 0 rfl rfl 7 (by decide) (hg _ gm_fieldLink_RX8_34_ErrandGuild_Scopes_tries_I_) (fun _ h9 => h9) rfl dX8_openTry_42 ?_
      refine lv_aload_n hx hb dX8_openTry_45 rfl (lv_at hl 0 rfl) ?_
      refine va_get (D := (dC, dI)) (ci := 8) (v := .int s8) (C := RX8) (T := TX8) (N := 9) hx hb hg gb_8 hown hK hP 0 rfl rfl 8 (by decide) (hg _ gm_fieldLink_RX8_37_ErrandGuild_Scopes_marks_I_) (fun _ h9 => h9) rfl dX8_openTry_46 ?_
      refine va_iast hx hb hK hP hD hS 3 2 rfl rfl (vp_in_iff.mpr ⟨by omega, by omega⟩) dX8_openTry_49 (fun H locs hP hD hS => ?_)
      have hP : va_P (dC, dI) vwCl [(h0, .inr (8, [.ref w0, .ref w1, .ref w2, .int s3, .ref w3, .ref w4, .ref w5, .int s7, .int s8])), (w3, .inl (k3, 24, .inl (upd f3 (Int32.toNatClampNeg s7) v1))), (w4, .inl (k4, 24, .inl (upd f4 (Int32.toNatClampNeg s7) v2))), (w5, .inl (k5, 24, .inl (upd f5 (Int32.toNatClampNeg s7) s8)))] H := hP
      have hD : va_D A [(h0, .inr (8, [.ref w0, .ref w1, .ref w2, .int s3, .ref w3, .ref w4, .ref w5, .int s7, .int s8])), (w3, .inl (k3, 24, .inl (upd f3 (Int32.toNatClampNeg s7) v1))), (w4, .inl (k4, 24, .inl (upd f4 (Int32.toNatClampNeg s7) v2))), (w5, .inl (k5, 24, .inl (upd f5 (Int32.toNatClampNeg s7) s8)))] := hD
      refine lv_aload_n hx hb dX8_openTry_50 rfl (lv_at hl 0 rfl) ?_
      refine lv_dup hx hb dX8_openTry_51 rfl ?_
      refine va_get (D := (dC, dI)) (ci := 8) (v := .int s7) (C := RX8) (T := TX8) (N := 9) hx hb hg gb_8 hown hK hP 0 rfl rfl 7 (by decide) (hg _ gm_fieldLink_RX8_34_ErrandGuild_Scopes_tries_I_) (fun _ h9 => h9) rfl dX8_openTry_52 ?_
      refine lv_iconst (v := 1) hx hb dX8_openTry_55 (by decide) ?_
      refine lv_iadd hx hb dX8_openTry_56 ?_
      refine lv_topi (fun z_3 ez_3 => ?_)
      refine va_put (D := (dC, dI)) (ci := 8) (v := .int z_3) (ty := .int) (C := RX8) (T := TX8) (N := 9) hx hb hg gb_8 tyX8 tyX8_ok nmX8 hown hK hP hD hS 0 rfl rfl 7 (by decide) (hg _ gm_fieldLink_RX8_34_ErrandGuild_Scopes_tries_I_) (fun _ h9 => h9) rfl (by decide +kernel) rfl rfl (Nat.le_of_ble_eq_true rfl) dX8_openTry_57 (fun H locs hP hD hS => ?_)
      have hP : va_P (dC, dI) vwCl [(h0, .inr (8, [.ref w0, .ref w1, .ref w2, .int s3, .ref w3, .ref w4, .ref w5, .int z_3, .int s8])), (w3, .inl (k3, 24, .inl (upd f3 (Int32.toNatClampNeg s7) v1))), (w4, .inl (k4, 24, .inl (upd f4 (Int32.toNatClampNeg s7) v2))), (w5, .inl (k5, 24, .inl (upd f5 (Int32.toNatClampNeg s7) s8)))] H := hP
      have hD : va_D A [(h0, .inr (8, [.ref w0, .ref w1, .ref w2, .int s3, .ref w3, .ref w4, .ref w5, .int z_3, .int s8])), (w3, .inl (k3, 24, .inl (upd f3 (Int32.toNatClampNeg s7) v1))), (w4, .inl (k4, 24, .inl (upd f4 (Int32.toNatClampNeg s7) v2))), (w5, .inl (k5, 24, .inl (upd f5 (Int32.toNatClampNeg s7) s8)))] := hD
      refine lv_aload_n hx hb dX8_openTry_60 rfl (lv_at hl 0 rfl) ?_
      refine lv_dup hx hb dX8_openTry_61 rfl ?_
      refine va_get (D := (dC, dI)) (ci := 8) (v := .int s8) (C := RX8) (T := TX8) (N := 9) hx hb hg gb_8 hown hK hP 0 rfl rfl 8 (by decide) (hg _ gm_fieldLink_RX8_37_ErrandGuild_Scopes_marks_I_) (fun _ h9 => h9) rfl dX8_openTry_62 ?_
      refine lv_iconst (v := 1) hx hb dX8_openTry_65 (by decide) ?_
      refine lv_iadd hx hb dX8_openTry_66 ?_
      refine lv_topi (fun z_4 ez_4 => ?_)
      refine va_put (D := (dC, dI)) (ci := 8) (v := .int z_4) (ty := .int) (C := RX8) (T := TX8) (N := 9) hx hb hg gb_8 tyX8 tyX8_ok nmX8 hown hK hP hD hS 0 rfl rfl 8 (by decide) (hg _ gm_fieldLink_RX8_37_ErrandGuild_Scopes_marks_I_) (fun _ h9 => h9) rfl (by decide +kernel) rfl rfl (Nat.le_of_ble_eq_true rfl) dX8_openTry_67 (fun H locs hP hD hS => ?_)
      have hP : va_P (dC, dI) vwCl [(h0, .inr (8, [.ref w0, .ref w1, .ref w2, .int s3, .ref w3, .ref w4, .ref w5, .int z_3, .int z_4])), (w3, .inl (k3, 24, .inl (upd f3 (Int32.toNatClampNeg s7) v1))), (w4, .inl (k4, 24, .inl (upd f4 (Int32.toNatClampNeg s7) v2))), (w5, .inl (k5, 24, .inl (upd f5 (Int32.toNatClampNeg s7) s8)))] H := hP
      have hD : va_D A [(h0, .inr (8, [.ref w0, .ref w1, .ref w2, .int s3, .ref w3, .ref w4, .ref w5, .int z_3, .int z_4])), (w3, .inl (k3, 24, .inl (upd f3 (Int32.toNatClampNeg s7) v1))), (w4, .inl (k4, 24, .inl (upd f4 (Int32.toNatClampNeg s7) v2))), (w5, .inl (k5, 24, .inl (upd f5 (Int32.toNatClampNeg s7) s8)))] := hD
      have hP9 := hP.sub (ws' := [(h0, .inr (8, [.ref w0, .ref w1, .ref w2, .int s3, .ref w3, .ref w4, .ref w5, .int z_3, .int z_4])), (w3, .inl (k3, 24, .inl (upd f3 (Int32.toNatClampNeg s7) v1))), (w4, .inl (k4, 24, .inl (upd f4 (Int32.toNatClampNeg s7) v2))), (w5, .inl (k5, 24, .inl (upd f5 (Int32.toNatClampNeg s7) s8)))]) [0, 1, 2, 3] rfl
      have hD9 := hD.sub (ws' := [(h0, .inr (8, [.ref w0, .ref w1, .ref w2, .int s3, .ref w3, .ref w4, .ref w5, .int z_3, .int z_4])), (w3, .inl (k3, 24, .inl (upd f3 (Int32.toNatClampNeg s7) v1))), (w4, .inl (k4, 24, .inl (upd f4 (Int32.toNatClampNeg s7) v2))), (w5, .inl (k5, 24, .inl (upd f5 (Int32.toNatClampNeg s7) s8)))]) [0, 1, 2, 3] (by decide) rfl
      have hK9 := hK.sub (tys' := []) [] rfl
      exact W.vret hx hb hr (fun t ht hW => ⟨⟨((fun _ => 0), (fun _ => (dC 0)), (fun k => ([(fun _ => 0), (fun _ => 0), (fun _ => 0), upd f3 (Int32.toNatClampNeg s7) v1, upd f4 (Int32.toNatClampNeg s7) v2, upd f5 (Int32.toNatClampNeg s7) s8, (fun _ => s3), (fun _ => z_3), (fun _ => z_4)] : List (Nat → Int32)).getD k (fun _ => 0)), (fun _ => (fun _ => none))), rfl, trivial, by rw [ht]; exact hP9, hD9, va_K.moved hW.alike hK9, (by show upd f3 (Int32.toNatClampNeg s7) v1 = bnF s7 f3 v1; (subst_vars; first | rfl | ((try simp only [aN, aF, st8, st17, wrOr, gvAt, bdOr, rbF, bnN, bnM, bnF, frN, ctN, caN, caB, caA, hAt, cAt, nb1, nb0]); first | rfl | (rw [if_pos (by omega)]; done) | (rw [if_neg (by omega)]; done) | (rw [if_pos (by omega)]; rfl) | (rw [if_neg (by omega)]; rfl)))), (by show upd f4 (Int32.toNatClampNeg s7) v2 = bnF s7 f4 v2; (subst_vars; first | rfl | ((try simp only [aN, aF, st8, st17, wrOr, gvAt, bdOr, rbF, bnN, bnM, bnF, frN, ctN, caN, caB, caA, hAt, cAt, nb1, nb0]); first | rfl | (rw [if_pos (by omega)]; done) | (rw [if_neg (by omega)]; done) | (rw [if_pos (by omega)]; rfl) | (rw [if_neg (by omega)]; rfl)))), (by show upd f5 (Int32.toNatClampNeg s7) s8 = bnF s7 f5 s8; (subst_vars; first | rfl | ((try simp only [aN, aF, st8, st17, wrOr, gvAt, bdOr, rbF, bnN, bnM, bnF, frN, ctN, caN, caB, caA, hAt, cAt, nb1, nb0]); first | rfl | (rw [if_pos (by omega)]; done) | (rw [if_neg (by omega)]; done) | (rw [if_pos (by omega)]; rfl) | (rw [if_neg (by omega)]; rfl)))), (by show s3 = s3; (subst_vars; first | rfl | ((try simp only [aN, aF, st8, st17, wrOr, gvAt, bdOr, rbF, bnN, bnM, bnF, frN, ctN, caN, caB, caA, hAt, cAt, nb1, nb0]); first | rfl | (rw [if_pos (by omega)]; done) | (rw [if_neg (by omega)]; done) | (rw [if_pos (by omega)]; rfl) | (rw [if_neg (by omega)]; rfl)))), (by show z_3 = bnN s7; (subst_vars; first | rfl | ((try simp only [aN, aF, st8, st17, wrOr, gvAt, bdOr, rbF, bnN, bnM, bnF, frN, ctN, caN, caB, caA, hAt, cAt, nb1, nb0]); first | rfl | (rw [if_pos (by omega)]; done) | (rw [if_neg (by omega)]; done) | (rw [if_pos (by omega)]; rfl) | (rw [if_neg (by omega)]; rfl)))), (by show z_4 = bnM s7 s8; (subst_vars; first | rfl | ((try simp only [aN, aF, st8, st17, wrOr, gvAt, bdOr, rbF, bnN, bnM, bnF, frN, ctN, caN, caB, caA, hAt, cAt, nb1, nb0]); first | rfl | (rw [if_pos (by omega)]; done) | (rw [if_neg (by omega)]; done) | (rw [if_pos (by omega)]; rfl) | (rw [if_neg (by omega)]; rfl))))⟩, hS.F ht⟩) hS.2.2 dX8_openTry_70
    · simp only [i_lt, i_le, i_eq, ti_24] at c_2
      have hP9 := hP.sub (ws' := [(h0, .inr (8, [.ref w0, .ref w1, .ref w2, .int s3, .ref w3, .ref w4, .ref w5, .int s7, .int s8])), (w3, .inl (k3, 24, .inl f3)), (w4, .inl (k4, 24, .inl f4)), (w5, .inl (k5, 24, .inl f5))]) [0, 1, 2, 3] rfl
      have hD9 := hD.sub (ws' := [(h0, .inr (8, [.ref w0, .ref w1, .ref w2, .int s3, .ref w3, .ref w4, .ref w5, .int s7, .int s8])), (w3, .inl (k3, 24, .inl f3)), (w4, .inl (k4, 24, .inl f4)), (w5, .inl (k5, 24, .inl f5))]) [0, 1, 2, 3] (by decide) rfl
      have hK9 := hK.sub (tys' := []) [] rfl
      exact W.vret hx hb hr (fun t ht hW => ⟨⟨((fun _ => 0), (fun _ => (dC 0)), (fun k => ([(fun _ => 0), (fun _ => 0), (fun _ => 0), f3, f4, f5, (fun _ => s3), (fun _ => s7), (fun _ => s8)] : List (Nat → Int32)).getD k (fun _ => 0)), (fun _ => (fun _ => none))), rfl, trivial, by rw [ht]; exact hP9, hD9, va_K.moved hW.alike hK9, (by show f3 = bnF s7 f3 v1; (subst_vars; first | rfl | ((try simp only [aN, aF, st8, st17, wrOr, gvAt, bdOr, rbF, bnN, bnM, bnF, frN, ctN, caN, caB, caA, hAt, cAt, nb1, nb0]); first | rfl | (rw [if_pos (by omega)]; done) | (rw [if_neg (by omega)]; done) | (rw [if_pos (by omega)]; rfl) | (rw [if_neg (by omega)]; rfl)))), (by show f4 = bnF s7 f4 v2; (subst_vars; first | rfl | ((try simp only [aN, aF, st8, st17, wrOr, gvAt, bdOr, rbF, bnN, bnM, bnF, frN, ctN, caN, caB, caA, hAt, cAt, nb1, nb0]); first | rfl | (rw [if_pos (by omega)]; done) | (rw [if_neg (by omega)]; done) | (rw [if_pos (by omega)]; rfl) | (rw [if_neg (by omega)]; rfl)))), (by show f5 = bnF s7 f5 s8; (subst_vars; first | rfl | ((try simp only [aN, aF, st8, st17, wrOr, gvAt, bdOr, rbF, bnN, bnM, bnF, frN, ctN, caN, caB, caA, hAt, cAt, nb1, nb0]); first | rfl | (rw [if_pos (by omega)]; done) | (rw [if_neg (by omega)]; done) | (rw [if_pos (by omega)]; rfl) | (rw [if_neg (by omega)]; rfl)))), (by show s3 = s3; (subst_vars; first | rfl | ((try simp only [aN, aF, st8, st17, wrOr, gvAt, bdOr, rbF, bnN, bnM, bnF, frN, ctN, caN, caB, caA, hAt, cAt, nb1, nb0]); first | rfl | (rw [if_pos (by omega)]; done) | (rw [if_neg (by omega)]; done) | (rw [if_pos (by omega)]; rfl) | (rw [if_neg (by omega)]; rfl)))), (by show s7 = bnN s7; (subst_vars; first | rfl | ((try simp only [aN, aF, st8, st17, wrOr, gvAt, bdOr, rbF, bnN, bnM, bnF, frN, ctN, caN, caB, caA, hAt, cAt, nb1, nb0]); first | rfl | (rw [if_pos (by omega)]; done) | (rw [if_neg (by omega)]; done) | (rw [if_pos (by omega)]; rfl) | (rw [if_neg (by omega)]; rfl)))), (by show s8 = bnM s7 s8; (subst_vars; first | rfl | ((try simp only [aN, aF, st8, st17, wrOr, gvAt, bdOr, rbF, bnN, bnM, bnF, frN, ctN, caN, caB, caA, hAt, cAt, nb1, nb0]); first | rfl | (rw [if_pos (by omega)]; done) | (rw [if_neg (by omega)]; done) | (rw [if_pos (by omega)]; rfl) | (rw [if_neg (by omega)]; rfl))))⟩, hS.F ht⟩) hS.2.2 dX8_openTry_16

set_option maxHeartbeats 4000000 in
set_option maxRecDepth 100000 in
theorem c_X8_closeTry (l : Launch) (dC : Nat → ClassId) (dI : Nat → Nat → Nat) (h0 : Nat) (w0 : Nat) (w1 : Nat) (w2 : Nat) (w3 : Nat) (w4 : Nat) (w5 : Nat) (s3 : Int32) (s7 : Int32) (s8 : Int32) (sz : Nat)  : Met l yX8_closeTry (.code yX8_closeTry cX8_closeTry 1 (some .boolean) :: gw) ({ frames := 0, cells := 0, slots := 0, locals := 0 }) (va_Pc [.ref h0] (fun U => U.heap.size = sz ∧ va_P (dC, dI) vwCl [(h0, .inr (8, [.ref w0, .ref w1, .ref w2, .int s3, .ref w3, .ref w4, .ref w5, .int s7, .int s8]))] U.heap ∧ va_K (dC, dI) vwCl [] U ∧ va_D (fun _ => True) [(h0, .inr (8, [.ref w0, .ref w1, .ref w2, .int s3, .ref w3, .ref w4, .ref w5, .int s7, .int s8]))] ∧ nx U)) (va_Qi (fun (r : Int32) (u : wS) => (r = 1 ∧ 0 < s7.toInt) ∨ (r = 0 ∧ ¬ 0 < s7.toInt)) (fun u t => va_P (dC, dI) vwCl [(h0, .inr (8, [.ref w0, .ref w1, .ref w2, .int (u.2.2.1 6 0), .ref w3, .ref w4, .ref w5, .int (u.2.2.1 7 0), .int (u.2.2.1 8 0)]))] t.heap ∧ va_D (va_A [(h0, .inr (8, [.ref w0, .ref w1, .ref w2, .int s3, .ref w3, .ref w4, .ref w5, .int s7, .int s8]))] sz) [(h0, .inr (8, [.ref w0, .ref w1, .ref w2, .int (u.2.2.1 6 0), .ref w3, .ref w4, .ref w5, .int (u.2.2.1 7 0), .int (u.2.2.1 8 0)]))] ∧ va_K (dC, dI) vwCl [] t ∧ (u.2.2.1 6 0) = s3 ∧ (u.2.2.1 7 0) = ctN s7 ∧ (u.2.2.1 8 0) = s8) (va_A [(h0, .inr (8, [.ref w0, .ref w1, .ref w2, .int s3, .ref w3, .ref w4, .ref w5, .int s7, .int s8]))] sz)) 0 0 (va_A [(h0, .inr (8, [.ref w0, .ref w1, .ref w2, .int s3, .ref w3, .ref w4, .ref w5, .int s7, .int s8]))] sz) := by
  refine Met.ofW (cc := cX8_closeTry) (maxL := 1) (ret := (some .boolean)) (by decide) rfl ?_
  intro p e s m args below meth c s₁ B hml hv
  obtain ⟨rfl, hsz, hP, hK, hD0, hN⟩ := hv
  have hx := B.exec
  have hb := B.bytes
  have hr := B.returns
  have hts := atoms_spec (ws := .code yX8_closeTry cX8_closeTry 1 (some .boolean) :: gw) B.pre
  have hg : ∀ w ∈ gw, w.before _ s = true := fun w h => hts w (List.mem_cons_of_mem _ h)
  have hown : s.vm.findClass RX8 = some m.cls := findClass_of_methodNamed B.named
  have hlocks := B.notSynchronized
  subst hsz
  have hD := hD0.self (sz := s.heap.size)
  generalize hAe : va_A [(h0, .inr (8, [.ref w0, .ref w1, .ref w2, .int s3, .ref w3, .ref w4, .ref w5, .int s7, .int s8]))] s.heap.size = A at hD ⊢
  have hA : ∀ q : Nat, s.heap.size ≤ q → A q := fun q h => by rw [← hAe]; exact Or.inr h
  have hS : va_S A s.heap s.heap [] := va_S.rf
  have hP : va_P (dC, dI) vwCl [(h0, .inr (8, [.ref w0, .ref w1, .ref w2, .int s3, .ref w3, .ref w4, .ref w5, .int s7, .int s8]))] s.heap := hP
  have hl := lv_entry ([.ref h0]) (n := 1) (Nat.le_of_ble_eq_true rfl)
  rw [lg_entry_eq]
  generalize (lg_sl ([.ref h0]) ++ List.replicate (1 - (lg_sl ([.ref h0])).length) Slot.unset).toArray = ls at hl ⊢
  have hl : lv_has ls 1 [(0, .ref h0)] := hl
  refine lv_aload_n hx hb dX8_closeTry_0 rfl (lv_at hl 0 rfl) ?_
  refine va_get (D := (dC, dI)) (ci := 8) (v := .int s7) (C := RX8) (T := TX8) (N := 9) hx hb hg gb_8 hown hK hP 0 rfl rfl 7 (by decide) (hg _ gm_fieldLink_RX8_34_ErrandGuild_Scopes_tries_I_) (fun _ h9 => h9) rfl dX8_closeTry_1 ?_
  refine lv_if_gt (tgt := 9) hx hb dX8_closeTry_4 (by decide) (fun c_1 => ?_) (fun c_1 => ?_)
  · simp only [i_lt, i_le, i_eq, ti_0] at c_1
    refine lv_aload_n hx hb dX8_closeTry_9 rfl (lv_at hl 0 rfl) ?_
    refine lv_dup hx hb dX8_closeTry_10 rfl ?_
    refine va_get (D := (dC, dI)) (ci := 8) (v := .int s7) (C := RX8) (T := TX8) (N := 9) hx hb hg gb_8 hown hK hP 0 rfl rfl 7 (by decide) (hg _ gm_fieldLink_RX8_34_ErrandGuild_Scopes_tries_I_) (fun _ h9 => h9) rfl dX8_closeTry_11 ?_
    refine lv_iconst (v := 1) hx hb dX8_closeTry_14 (by decide) ?_
    refine lv_isub hx hb dX8_closeTry_15 ?_
    refine lv_topi (fun z_2 ez_2 => ?_)
    refine va_put (D := (dC, dI)) (ci := 8) (v := .int z_2) (ty := .int) (C := RX8) (T := TX8) (N := 9) hx hb hg gb_8 tyX8 tyX8_ok nmX8 hown hK hP hD hS 0 rfl rfl 7 (by decide) (hg _ gm_fieldLink_RX8_34_ErrandGuild_Scopes_tries_I_) (fun _ h9 => h9) rfl (by decide +kernel) rfl rfl (Nat.le_of_ble_eq_true rfl) dX8_closeTry_16 (fun H locs hP hD hS => ?_)
    have hP : va_P (dC, dI) vwCl [(h0, .inr (8, [.ref w0, .ref w1, .ref w2, .int s3, .ref w3, .ref w4, .ref w5, .int z_2, .int s8]))] H := hP
    have hD : va_D A [(h0, .inr (8, [.ref w0, .ref w1, .ref w2, .int s3, .ref w3, .ref w4, .ref w5, .int z_2, .int s8]))] := hD
    refine lv_iconst (v := 1) hx hb dX8_closeTry_19 (by decide) ?_
    have hP9 := hP.sub (ws' := [(h0, .inr (8, [.ref w0, .ref w1, .ref w2, .int s3, .ref w3, .ref w4, .ref w5, .int z_2, .int s8]))]) [0] rfl
    have hD9 := hD.sub (ws' := [(h0, .inr (8, [.ref w0, .ref w1, .ref w2, .int s3, .ref w3, .ref w4, .ref w5, .int z_2, .int s8]))]) [0] (by decide) rfl
    have hK9 := hK.sub (tys' := []) [] rfl
    exact W.zret (v := 1) hx hb hr rfl (fun t ht hW => ⟨⟨1, ((fun _ => 0), (fun _ => (dC 0)), (fun k => ([(fun _ => 0), (fun _ => 0), (fun _ => 0), (fun _ => 0), (fun _ => 0), (fun _ => 0), (fun _ => s3), (fun _ => z_2), (fun _ => s8)] : List (Nat → Int32)).getD k (fun _ => 0)), (fun _ => (fun _ => none))), rfl, (Or.inl ⟨rfl, by omega⟩), by rw [ht]; exact hP9, hD9, va_K.moved hW.alike hK9, (by show s3 = s3; (subst_vars; first | rfl | ((try simp only [aN, aF, st8, st17, wrOr, gvAt, bdOr, rbF, bnN, bnM, bnF, frN, ctN, caN, caB, caA, hAt, cAt, nb1, nb0]); first | rfl | (rw [if_pos (by omega)]; done) | (rw [if_neg (by omega)]; done) | (rw [if_pos (by omega)]; rfl) | (rw [if_neg (by omega)]; rfl)))), (by show z_2 = ctN s7; (subst_vars; first | rfl | ((try simp only [aN, aF, st8, st17, wrOr, gvAt, bdOr, rbF, bnN, bnM, bnF, frN, ctN, caN, caB, caA, hAt, cAt, nb1, nb0]); first | rfl | (rw [if_pos (by omega)]; done) | (rw [if_neg (by omega)]; done) | (rw [if_pos (by omega)]; rfl) | (rw [if_neg (by omega)]; rfl)))), (by show s8 = s8; (subst_vars; first | rfl | ((try simp only [aN, aF, st8, st17, wrOr, gvAt, bdOr, rbF, bnN, bnM, bnF, frN, ctN, caN, caB, caA, hAt, cAt, nb1, nb0]); first | rfl | (rw [if_pos (by omega)]; done) | (rw [if_neg (by omega)]; done) | (rw [if_pos (by omega)]; rfl) | (rw [if_neg (by omega)]; rfl))))⟩, hS.F ht⟩) hS.2.2 dX8_closeTry_20
  · simp only [i_lt, i_le, i_eq, ti_0] at c_1
    refine lv_iconst (v := 0) hx hb dX8_closeTry_7 (by decide) ?_
    have hP9 := hP.sub (ws' := [(h0, .inr (8, [.ref w0, .ref w1, .ref w2, .int s3, .ref w3, .ref w4, .ref w5, .int s7, .int s8]))]) [0] rfl
    have hD9 := hD.sub (ws' := [(h0, .inr (8, [.ref w0, .ref w1, .ref w2, .int s3, .ref w3, .ref w4, .ref w5, .int s7, .int s8]))]) [0] (by decide) rfl
    have hK9 := hK.sub (tys' := []) [] rfl
    exact W.zret (v := 0) hx hb hr rfl (fun t ht hW => ⟨⟨0, ((fun _ => 0), (fun _ => (dC 0)), (fun k => ([(fun _ => 0), (fun _ => 0), (fun _ => 0), (fun _ => 0), (fun _ => 0), (fun _ => 0), (fun _ => s3), (fun _ => s7), (fun _ => s8)] : List (Nat → Int32)).getD k (fun _ => 0)), (fun _ => (fun _ => none))), rfl, (Or.inr ⟨rfl, by omega⟩), by rw [ht]; exact hP9, hD9, va_K.moved hW.alike hK9, (by show s3 = s3; (subst_vars; first | rfl | ((try simp only [aN, aF, st8, st17, wrOr, gvAt, bdOr, rbF, bnN, bnM, bnF, frN, ctN, caN, caB, caA, hAt, cAt, nb1, nb0]); first | rfl | (rw [if_pos (by omega)]; done) | (rw [if_neg (by omega)]; done) | (rw [if_pos (by omega)]; rfl) | (rw [if_neg (by omega)]; rfl)))), (by show s7 = ctN s7; (subst_vars; first | rfl | ((try simp only [aN, aF, st8, st17, wrOr, gvAt, bdOr, rbF, bnN, bnM, bnF, frN, ctN, caN, caB, caA, hAt, cAt, nb1, nb0]); first | rfl | (rw [if_pos (by omega)]; done) | (rw [if_neg (by omega)]; done) | (rw [if_pos (by omega)]; rfl) | (rw [if_neg (by omega)]; rfl)))), (by show s8 = s8; (subst_vars; first | rfl | ((try simp only [aN, aF, st8, st17, wrOr, gvAt, bdOr, rbF, bnN, bnM, bnF, frN, ctN, caN, caB, caA, hAt, cAt, nb1, nb0]); first | rfl | (rw [if_pos (by omega)]; done) | (rw [if_neg (by omega)]; done) | (rw [if_pos (by omega)]; rfl) | (rw [if_neg (by omega)]; rfl))))⟩, hS.F ht⟩) hS.2.2 dX8_closeTry_8

set_option maxHeartbeats 4000000 in
set_option maxRecDepth 100000 in
theorem c_X8_endBindingsSince (l : Launch) (dC : Nat → ClassId) (dI : Nat → Nat → Nat) (h0 : Nat) (w0 : Nat) (w1 : Nat) (w2 : Nat) (w3 : Nat) (w4 : Nat) (w5 : Nat) (k2 : ClassId) (f2 : Nat → Int32) (s3 : Int32) (s7 : Int32) (s8 : Int32) (v1 : Int32) (sz : Nat)  : Met l yX8_endBindingsSince (.code yX8_endBindingsSince cX8_endBindingsSince 3 none :: gw) ({ frames := 0, cells := 0, slots := 0, locals := 0 }) (va_Pc [.ref h0, .int v1] (fun U => U.heap.size = sz ∧ va_P (dC, dI) vwCl [(h0, .inr (8, [.ref w0, .ref w1, .ref w2, .int s3, .ref w3, .ref w4, .ref w5, .int s7, .int s8])), (w2, .inl (k2, 24, .inl f2))] U.heap ∧ va_K (dC, dI) vwCl [(k2, .int)] U ∧ va_D (fun _ => True) [(h0, .inr (8, [.ref w0, .ref w1, .ref w2, .int s3, .ref w3, .ref w4, .ref w5, .int s7, .int s8])), (w2, .inl (k2, 24, .inl f2))] ∧ nx U)) (va_Qv (fun (u : wS) => True) (fun u t => va_P (dC, dI) vwCl [(h0, .inr (8, [.ref w0, .ref w1, .ref w2, .int (u.2.2.1 6 0), .ref w3, .ref w4, .ref w5, .int (u.2.2.1 7 0), .int (u.2.2.1 8 0)])), (w2, .inl (k2, 24, .inl f2))] t.heap ∧ va_D (va_A [(h0, .inr (8, [.ref w0, .ref w1, .ref w2, .int s3, .ref w3, .ref w4, .ref w5, .int s7, .int s8])), (w2, .inl (k2, 24, .inl f2))] sz) [(h0, .inr (8, [.ref w0, .ref w1, .ref w2, .int (u.2.2.1 6 0), .ref w3, .ref w4, .ref w5, .int (u.2.2.1 7 0), .int (u.2.2.1 8 0)])), (w2, .inl (k2, 24, .inl f2))] ∧ va_K (dC, dI) vwCl [] t ∧ (u.2.2.1 6 0) = ebs v1 f2 24 s3 ∧ (u.2.2.1 7 0) = s7 ∧ (u.2.2.1 8 0) = s8) (va_A [(h0, .inr (8, [.ref w0, .ref w1, .ref w2, .int s3, .ref w3, .ref w4, .ref w5, .int s7, .int s8])), (w2, .inl (k2, 24, .inl f2))] sz)) 0 0 (va_A [(h0, .inr (8, [.ref w0, .ref w1, .ref w2, .int s3, .ref w3, .ref w4, .ref w5, .int s7, .int s8])), (w2, .inl (k2, 24, .inl f2))] sz) := by
  refine Met.ofW (cc := cX8_endBindingsSince) (maxL := 3) (ret := none) (by decide) rfl ?_
  intro p e s m args below meth c s₁ B hml hv
  obtain ⟨rfl, hsz, hP, hK, hD0, hN⟩ := hv
  have hx := B.exec
  have hb := B.bytes
  have hr := B.returns
  have hts := atoms_spec (ws := .code yX8_endBindingsSince cX8_endBindingsSince 3 none :: gw) B.pre
  have hg : ∀ w ∈ gw, w.before _ s = true := fun w h => hts w (List.mem_cons_of_mem _ h)
  have hown : s.vm.findClass RX8 = some m.cls := findClass_of_methodNamed B.named
  have hlocks := B.notSynchronized
  subst hsz
  have hD := hD0.self (sz := s.heap.size)
  generalize hAe : va_A [(h0, .inr (8, [.ref w0, .ref w1, .ref w2, .int s3, .ref w3, .ref w4, .ref w5, .int s7, .int s8])), (w2, .inl (k2, 24, .inl f2))] s.heap.size = A at hD ⊢
  have hA : ∀ q : Nat, s.heap.size ≤ q → A q := fun q h => by rw [← hAe]; exact Or.inr h
  have hS : va_S A s.heap s.heap [] := va_S.rf
  have hP : va_P (dC, dI) vwCl [(h0, .inr (8, [.ref w0, .ref w1, .ref w2, .int s3, .ref w3, .ref w4, .ref w5, .int s7, .int s8])), (w2, .inl (k2, 24, .inl f2))] s.heap := hP
  have hl := lv_entry ([.ref h0, .int v1]) (n := 3) (Nat.le_of_ble_eq_true rfl)
  rw [lg_entry_eq]
  generalize (lg_sl ([.ref h0, .int v1]) ++ List.replicate (3 - (lg_sl ([.ref h0, .int v1])).length) Slot.unset).toArray = ls at hl ⊢
  have hl : lv_has ls 3 [(0, .ref h0), (1, .int v1)] := hl
  refine lv_bipush (v := 23) hx hb dX8_endBindingsSince_0 (by decide) ?_
  refine lv_istore_n (lv' := [(2, .int 23), (0, .ref h0), (1, .int v1)]) hx hb dX8_endBindingsSince_2 rfl hl (by decide) rfl (fun ls hl => ?_)
  have L3 : ∀ (fuel : Nat) (x_1 : Int32) (m_2 : Int32) (H : Heap) (locs : List Loc) (ls : Array Slot), (x_1.toInt + 1).toNat < fuel → (-1 ≤ x_1.toInt ∧ x_1.toInt ≤ 23) → (ebs v1 f2 (x_1.toInt + 1).toNat m_2 = ebs v1 f2 24 s3) → va_P (dC, dI) vwCl [(h0, .inr (8, [.ref w0, .ref w1, .ref w2, .int m_2, .ref w3, .ref w4, .ref w5, .int s7, .int s8])), (w2, .inl (k2, 24, .inl f2))] H → va_D A [(h0, .inr (8, [.ref w0, .ref w1, .ref w2, .int m_2, .ref w3, .ref w4, .ref w5, .int s7, .int s8])), (w2, .inl (k2, 24, .inl f2))] → va_S A s.heap H locs → lv_has ls 3 [(2, .int x_1), (0, .ref h0), (1, .int v1)] → W p l e (headSpec (.code yX8_endBindingsSince cX8_endBindingsSince 3 none :: gw) ({ frames := 0, cells := 0, slots := 0, locals := 0 })).room s m ([.ref h0, .int v1] : List Value).toArray below meth c H locs 0 0 (MQ below (va_Qv (fun (u : wS) => True) (fun u t => va_P (dC, dI) vwCl [(h0, .inr (8, [.ref w0, .ref w1, .ref w2, .int (u.2.2.1 6 0), .ref w3, .ref w4, .ref w5, .int (u.2.2.1 7 0), .int (u.2.2.1 8 0)])), (w2, .inl (k2, 24, .inl f2))] t.heap ∧ va_D A [(h0, .inr (8, [.ref w0, .ref w1, .ref w2, .int (u.2.2.1 6 0), .ref w3, .ref w4, .ref w5, .int (u.2.2.1 7 0), .int (u.2.2.1 8 0)])), (w2, .inl (k2, 24, .inl f2))] ∧ va_K (dC, dI) vwCl [] t ∧ (u.2.2.1 6 0) = ebs v1 f2 24 s3 ∧ (u.2.2.1 7 0) = s7 ∧ (u.2.2.1 8 0) = s8) A) ([.ref h0, .int v1] : List Value).toArray s 0 0 A) (F0 m 3 ls []) := by
    intro fuel
    induction fuel with
    | zero => intro x_1 m_2 H locs ls hm; exact absurd hm (Nat.not_lt_zero _)
    | succ fuel_4 ih_3 =>
      intro x_1 m_2 H locs ls hm_5 v_6 v_7 hP hD hS hl
      refine lv_iload_n hx hb dX8_endBindingsSince_3 rfl (lv_at hl 0 rfl) ?_
      refine lv_if_lt (tgt := 36) hx hb dX8_endBindingsSince_4 (by decide) (fun c_8 => ?_) (fun c_8 => ?_)
      · simp only [i_lt, i_le, i_eq, ti_0] at c_8
        have hP9 := hP.sub (ws' := [(h0, .inr (8, [.ref w0, .ref w1, .ref w2, .int m_2, .ref w3, .ref w4, .ref w5, .int s7, .int s8])), (w2, .inl (k2, 24, .inl f2))]) [0, 1] rfl
        have hD9 := hD.sub (ws' := [(h0, .inr (8, [.ref w0, .ref w1, .ref w2, .int m_2, .ref w3, .ref w4, .ref w5, .int s7, .int s8])), (w2, .inl (k2, 24, .inl f2))]) [0, 1] (by decide) rfl
        have hK9 := hK.sub (tys' := []) [] rfl
        exact W.vret hx hb hr (fun t ht hW => ⟨⟨((fun _ => 0), (fun _ => (dC 0)), (fun k => ([(fun _ => 0), (fun _ => 0), (fun _ => 0), (fun _ => 0), (fun _ => 0), (fun _ => 0), (fun _ => m_2), (fun _ => s7), (fun _ => s8)] : List (Nat → Int32)).getD k (fun _ => 0)), (fun _ => (fun _ => none))), rfl, trivial, by rw [ht]; exact hP9, hD9, va_K.moved hW.alike hK9, (by show m_2 = ebs v1 f2 24 s3; have hX := v_7; rw [show (x_1.toInt + 1).toNat = 0 by omega, ebs_0] at hX; exact hX), (by show s7 = s7; (subst_vars; first | rfl | ((try simp only [aN, aF, st8, st17, wrOr, gvAt, bdOr, rbF, bnN, bnM, bnF, frN, ctN, caN, caB, caA, hAt, cAt, nb1, nb0]); first | rfl | (rw [if_pos (by omega)]; done) | (rw [if_neg (by omega)]; done) | (rw [if_pos (by omega)]; rfl) | (rw [if_neg (by omega)]; rfl)))), (by show s8 = s8; (subst_vars; first | rfl | ((try simp only [aN, aF, st8, st17, wrOr, gvAt, bdOr, rbF, bnN, bnM, bnF, frN, ctN, caN, caB, caA, hAt, cAt, nb1, nb0]); first | rfl | (rw [if_pos (by omega)]; done) | (rw [if_neg (by omega)]; done) | (rw [if_pos (by omega)]; rfl) | (rw [if_neg (by omega)]; rfl))))⟩, hS.F ht⟩) hS.2.2 dX8_endBindingsSince_36
      · simp only [i_lt, i_le, i_eq, ti_0] at c_8
        refine lv_iload_n hx hb dX8_endBindingsSince_7 rfl (lv_at hl 0 rfl) ?_
        refine lv_aload_n hx hb dX8_endBindingsSince_8 rfl (lv_at hl 1 rfl) ?_
        refine va_get (D := (dC, dI)) (ci := 8) (v := .int m_2) (C := RX8) (T := TX8) (N := 9) hx hb hg gb_8 hown hK hP 0 rfl rfl 3 (by decide) (hg _ gm_fieldLink_RX8_30_ErrandGuild_Scopes_bindings_I_) (fun _ h9 => h9) rfl dX8_endBindingsSince_9 ?_
        refine lv_icmp_ge (tgt := 30) hx hb dX8_endBindingsSince_12 (by decide) (fun c_9 => ?_) (fun c_9 => ?_)
        · simp only [i_lt, i_le, i_eq] at c_9
          obtain ⟨y_10, ey_10⟩ : ∃ q : Int32, q = x_1 + (-1) := ⟨_, rfl⟩
          refine lv_iinc (v := y_10) (lv' := [(2, .int y_10), (0, .ref h0), (1, .int v1)]) hx hb dX8_endBindingsSince_30 hl (k := 0) rfl (by rw [ey_10]; rfl) (by decide) rfl (fun ls hl => ?_)
          have ty_10 : y_10.toInt = x_1.toInt + (-1) := ar_add rfl ti_m1 ey_10 (by omega)
          refine lv_goto (tgt := 3) hx hb dX8_endBindingsSince_33 (by decide) ?_
          exact ih_3 y_10 m_2 H locs ls (by omega) (by omega) (by have hX := v_7; have c1_ := cl_eq x_1; rw [show (x_1.toInt + 1).toNat = Int32.toNatClampNeg x_1 + 1 by omega, ebs_s, if_neg (by omega)] at hX; rw [show (y_10.toInt + 1).toNat = Int32.toNatClampNeg x_1 by omega]; exact hX) hP hD hS (lv_sub hl [0, 1, 2] rfl)
        · simp only [i_lt, i_le, i_eq] at c_9
          refine lv_aload_n hx hb dX8_endBindingsSince_15 rfl (lv_at hl 1 rfl) ?_
          refine va_get (D := (dC, dI)) (ci := 8) (v := .ref w2) (C := RX8) (T := TX8) (N := 9) hx hb hg gb_8 hown hK hP 0 rfl rfl 2 (by decide) (hg _ gm_fieldLink_RX8_18_ErrandGuild_Scopes_bindingMarks_AI_) (fun _ h9 => h9) rfl dX8_endBindingsSince_16 ?_
          refine lv_iload_n hx hb dX8_endBindingsSince_19 rfl (lv_at hl 0 rfl) ?_
          refine va_iald hx hb hK hP 1 0 rfl rfl (vp_in_iff.mpr ⟨by omega, by omega⟩) dX8_endBindingsSince_20 ?_
          refine lv_topi (fun z_11 ez_11 => ?_)
          refine lv_iload_n hx hb dX8_endBindingsSince_21 rfl (lv_at hl 2 rfl) ?_
          refine lv_icmp_le (tgt := 30) hx hb dX8_endBindingsSince_22 (by decide) (fun c_12 => ?_) (fun c_12 => ?_)
          · simp only [i_lt, i_le, i_eq] at c_12
            obtain ⟨y_13, ey_13⟩ : ∃ q : Int32, q = x_1 + (-1) := ⟨_, rfl⟩
            refine lv_iinc (v := y_13) (lv' := [(2, .int y_13), (0, .ref h0), (1, .int v1)]) hx hb dX8_endBindingsSince_30 hl (k := 0) rfl (by rw [ey_13]; rfl) (by decide) rfl (fun ls hl => ?_)
            have ty_13 : y_13.toInt = x_1.toInt + (-1) := ar_add rfl ti_m1 ey_13 (by omega)
            refine lv_goto (tgt := 3) hx hb dX8_endBindingsSince_33 (by decide) ?_
            exact ih_3 y_13 m_2 H locs ls (by omega) (by omega) (by have qz_11 := congrArg Int32.toInt ez_11; have hX := v_7; have c1_ := cl_eq x_1; rw [show (x_1.toInt + 1).toNat = Int32.toNatClampNeg x_1 + 1 by omega, ebs_s, if_neg (by omega)] at hX; rw [show (y_13.toInt + 1).toNat = Int32.toNatClampNeg x_1 by omega]; exact hX) hP hD hS (lv_sub hl [0, 1, 2] rfl)
          · simp only [i_lt, i_le, i_eq] at c_12
            refine lv_aload_n hx hb dX8_endBindingsSince_25 rfl (lv_at hl 1 rfl) ?_
            refine lv_iload_n hx hb dX8_endBindingsSince_26 rfl (lv_at hl 0 rfl) ?_
            refine va_put (D := (dC, dI)) (ci := 8) (v := .int x_1) (ty := .int) (C := RX8) (T := TX8) (N := 9) hx hb hg gb_8 tyX8 tyX8_ok nmX8 hown hK hP hD hS 0 rfl rfl 3 (by decide) (hg _ gm_fieldLink_RX8_30_ErrandGuild_Scopes_bindings_I_) (fun _ h9 => h9) rfl (by decide +kernel) rfl rfl (Nat.le_of_ble_eq_true rfl) dX8_endBindingsSince_27 (fun H locs hP hD hS => ?_)
            have hP : va_P (dC, dI) vwCl [(h0, .inr (8, [.ref w0, .ref w1, .ref w2, .int x_1, .ref w3, .ref w4, .ref w5, .int s7, .int s8])), (w2, .inl (k2, 24, .inl f2))] H := hP
            have hD : va_D A [(h0, .inr (8, [.ref w0, .ref w1, .ref w2, .int x_1, .ref w3, .ref w4, .ref w5, .int s7, .int s8])), (w2, .inl (k2, 24, .inl f2))] := hD
            obtain ⟨y_14, ey_14⟩ : ∃ q : Int32, q = x_1 + (-1) := ⟨_, rfl⟩
            refine lv_iinc (v := y_14) (lv' := [(2, .int y_14), (0, .ref h0), (1, .int v1)]) hx hb dX8_endBindingsSince_30 hl (k := 0) rfl (by rw [ey_14]; rfl) (by decide) rfl (fun ls hl => ?_)
            have ty_14 : y_14.toInt = x_1.toInt + (-1) := ar_add rfl ti_m1 ey_14 (by omega)
            refine lv_goto (tgt := 3) hx hb dX8_endBindingsSince_33 (by decide) ?_
            exact ih_3 y_14 x_1 H locs ls (by omega) (by omega) (by have qz_11 := congrArg Int32.toInt ez_11; have hX := v_7; have c1_ := cl_eq x_1; rw [show (x_1.toInt + 1).toNat = Int32.toNatClampNeg x_1 + 1 by omega, ebs_s, if_pos (by omega), i_of (x := x_1) (by omega)] at hX; rw [show (y_14.toInt + 1).toNat = Int32.toNatClampNeg x_1 by omega]; exact hX) hP hD hS (lv_sub hl [0, 1, 2] rfl)
  exact L3 _ (23 : Int32) s3 _ _ _ (Nat.lt_succ_self _) (by have t_0 := ti_23; omega) (by rw [show ((23 : Int32).toInt + 1).toNat = 24 by decide]) hP hD hS (lv_sub hl [0, 1, 2] rfl)
