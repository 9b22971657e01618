set_option maxHeartbeats 4000000 in
set_option maxRecDepth 100000 in
theorem c_X0_clear (l : Launch) (dC : Nat → ClassId) (dI : Nat → Nat → Nat) (h0 : Nat) (w0 : Nat) (lm : Int32) (us : Int32) (sz : Nat)  : Met l yX0_clear (.code yX0_clear cX0_clear 1 none :: gw) ({ frames := 0, cells := 0, slots := 0, locals := 0 }) (va_Pc [.ref h0] (fun U => U.heap.size = sz ∧ va_P (dC, dI) vwCl [(h0, .inr (0, [.int lm, .ref w0, .int us]))] U.heap ∧ va_K (dC, dI) vwCl [] U ∧ va_D (fun _ => True) [(h0, .inr (0, [.int lm, .ref w0, .int us]))] ∧ nx U)) (va_Qv (fun (u : Unit) => True) (fun _ _ => True) (va_A [(h0, .inr (0, [.int lm, .ref w0, .int us]))] sz)) 0 0 (va_A [(h0, .inr (0, [.int lm, .ref w0, .int us]))] sz) := by
  refine Met.ofW (cc := cX0_clear) (maxL := 1) (ret := none) (by decide) rfl ?_
  intro p e s m args below meth c s₁ B hml hv
  obtain ⟨rfl, hsz, hP, hK, hD0, hN⟩ := hv
  have hx := B.exec
  have hb := B.bytes
  have hr := B.returns
  have hts := atoms_spec (ws := .code yX0_clear cX0_clear 1 none :: gw) B.pre
  have hg : ∀ w ∈ gw, w.before _ s = true := fun w h => hts w (List.mem_cons_of_mem _ h)
  have hown : s.vm.findClass RX0 = some m.cls := findClass_of_methodNamed B.named
  have hlocks := B.notSynchronized
  subst hsz
  have hD := hD0.self (sz := s.heap.size)
  generalize hAe : va_A [(h0, .inr (0, [.int lm, .ref w0, .int us]))] s.heap.size = A at hD ⊢
  have hA : ∀ q : Nat, s.heap.size ≤ q → A q := fun q h => by rw [← hAe]; exact Or.inr h
  have hS : va_S A s.heap s.heap [] := va_S.rf
  have hP : va_P (dC, dI) vwCl [(h0, .inr (0, [.int lm, .ref w0, .int us]))] s.heap := hP
  have hl := lv_entry ([.ref h0]) (n := 1) (Nat.le_of_ble_eq_true rfl)
  rw [lg_entry_eq]
  generalize (lg_sl ([.ref h0]) ++ List.replicate (1 - (lg_sl ([.ref h0])).length) Slot.unset).toArray = ls at hl ⊢
  have hl : lv_has ls 1 [(0, .ref h0)] := hl
  refine lv_aload_n hx hb dX0_clear_0 rfl (lv_at hl 0 rfl) ?_
  refine lv_iconst (v := 0) hx hb dX0_clear_1 (by decide) ?_
  refine va_put (D := (dC, dI)) (ci := 0) (v := .int 0) (ty := .int) (C := RX0) (T := TX0) (N := 3) hx hb hg gb_0 tyX0 tyX0_ok nmX0 hown hK hP hD hS 0 rfl rfl 2 (by decide) (hg _ gm_fieldLink_RX0_19_ErrandGuild_Cells_used_I_) (fun _ h9 => h9) rfl (by decide +kernel) rfl rfl (Nat.le_of_ble_eq_true rfl) dX0_clear_2 (fun H locs hP hD hS => ?_)
  have hP : va_P (dC, dI) vwCl [(h0, .inr (0, [.int lm, .ref w0, .int 0]))] H := hP
  have hD : va_D A [(h0, .inr (0, [.int lm, .ref w0, .int 0]))] := hD
  exact W.vret hx hb hr (fun t ht hW => ⟨⟨(), rfl, trivial, trivial⟩, hS.F ht⟩) hS.2.2 dX0_clear_5

set_option maxHeartbeats 4000000 in
set_option maxRecDepth 100000 in
theorem c_X0_has (l : Launch) (dC : Nat → ClassId) (dI : Nat → Nat → Nat) (h0 : Nat) (w0 : Nat) (lm : Int32) (v1 : Int32) (sz : Nat)  : Met l yX0_has (.code yX0_has cX0_has 2 (some .boolean) :: gw) ({ frames := 0, cells := 0, slots := 0, locals := 0 }) (va_Pc [.ref h0, .int v1] (fun U => U.heap.size = sz ∧ va_P (dC, dI) vwCl [(h0, .inr (0, [.int lm, .ref w0, .int 0]))] U.heap ∧ va_K (dC, dI) vwCl [] U ∧ va_D (fun _ => True) [(h0, .inr (0, [.int lm, .ref w0, .int 0]))] ∧ nx U)) (va_Qi (fun (r : Int32) (u : Unit) => r = 0) (fun _ _ => True) (va_A [(h0, .inr (0, [.int lm, .ref w0, .int 0]))] sz)) 0 0 (va_A [(h0, .inr (0, [.int lm, .ref w0, .int 0]))] sz) := by
  refine Met.ofW (cc := cX0_has) (maxL := 2) (ret := (some .boolean)) (by decide) rfl ?_
  intro p e s m args below meth c s₁ B hml hv
  obtain ⟨rfl, hsz, hP, hK, hD0, hN⟩ := hv
  have hx := B.exec
  have hb := B.bytes
  have hr := B.returns
  have hts := atoms_spec (ws := .code yX0_has cX0_has 2 (some .boolean) :: gw) B.pre
  have hg : ∀ w ∈ gw, w.before _ s = true := fun w h => hts w (List.mem_cons_of_mem _ h)
  have hown : s.vm.findClass RX0 = some m.cls := findClass_of_methodNamed B.named
  have hlocks := B.notSynchronized
  subst hsz
  have hD := hD0.self (sz := s.heap.size)
  generalize hAe : va_A [(h0, .inr (0, [.int lm, .ref w0, .int 0]))] s.heap.size = A at hD ⊢
  have hA : ∀ q : Nat, s.heap.size ≤ q → A q := fun q h => by rw [← hAe]; exact Or.inr h
  have hS : va_S A s.heap s.heap [] := va_S.rf
  have hP : va_P (dC, dI) vwCl [(h0, .inr (0, [.int lm, .ref w0, .int 0]))] s.heap := hP
  have hl := lv_entry ([.ref h0, .int v1]) (n := 2) (Nat.le_of_ble_eq_true rfl)
  rw [lg_entry_eq]
  generalize (lg_sl ([.ref h0, .int v1]) ++ List.replicate (2 - (lg_sl ([.ref h0, .int v1])).length) Slot.unset).toArray = ls at hl ⊢
  have hl : lv_has ls 2 [(0, .ref h0), (1, .int v1)] := hl
  refine lv_iload_n hx hb dX0_has_0 rfl (lv_at hl 1 rfl) ?_
  refine lv_if_lt (tgt := 25) hx hb dX0_has_1 (by decide) (fun c_1 => ?_) (fun c_1 => ?_)
  · simp only [i_lt, i_le, i_eq, ti_0] at c_1
    refine lv_iconst (v := 0) hx hb dX0_has_25 (by decide) ?_
    exact W.zret (v := 0) hx hb hr rfl (fun t ht hW => ⟨⟨0, (), rfl, rfl, trivial⟩, hS.F ht⟩) hS.2.2 dX0_has_26
  · simp only [i_lt, i_le, i_eq, ti_0] at c_1
    refine lv_iload_n hx hb dX0_has_4 rfl (lv_at hl 1 rfl) ?_
    refine lv_aload_n hx hb dX0_has_5 rfl (lv_at hl 0 rfl) ?_
    refine va_get (D := (dC, dI)) (ci := 0) (v := .int 0) (C := RX0) (T := TX0) (N := 3) hx hb hg gb_0 hown hK hP 0 rfl rfl 2 (by decide) (hg _ gm_fieldLink_RX0_19_ErrandGuild_Cells_used_I_) (fun _ h9 => h9) rfl dX0_has_6 ?_
    refine lv_icmp_ge (tgt := 25) hx hb dX0_has_9 (by decide) (fun c_2 => ?_) (fun c_2 => ?_)
    · simp only [i_lt, i_le, i_eq, ti_0] at c_2
      refine lv_iconst (v := 0) hx hb dX0_has_25 (by decide) ?_
      exact W.zret (v := 0) hx hb hr rfl (fun t ht hW => ⟨⟨0, (), rfl, rfl, trivial⟩, hS.F ht⟩) hS.2.2 dX0_has_26
    · simp only [i_lt, i_le, i_eq, ti_0] at c_2
      exfalso
      omega

set_option maxHeartbeats 4000000 in
set_option maxRecDepth 100000 in
theorem c_X5_clear (l : Launch) (dC : Nat → ClassId) (dI : Nat → Nat → Nat) (h0 : Nat) (h1 : Nat) (w0 : Nat) (l5 : Int32) (lm : Int32) (us : Int32) (sz : Nat)  : Met l yX5_clear (.code yX5_clear cX5_clear 1 none :: gw) ({ frames := 1, cells := 0, slots := 0, locals := 20 }) (va_Pc [.ref h0] (fun U => U.heap.size = sz ∧ va_P (dC, dI) vwCl [(h0, .inr (5, [.int l5, .ref h1])), (h1, .inr (0, [.int lm, .ref w0, .int us]))] U.heap ∧ va_K (dC, dI) vwCl [] U ∧ va_D (fun _ => True) [(h0, .inr (5, [.int l5, .ref h1])), (h1, .inr (0, [.int lm, .ref w0, .int us]))] ∧ nx U)) (va_Qv (fun (u : Unit) => True) (fun _ _ => True) (va_A [(h0, .inr (5, [.int l5, .ref h1])), (h1, .inr (0, [.int lm, .ref w0, .int us]))] sz)) 0 0 (va_A [(h0, .inr (5, [.int l5, .ref h1])), (h1, .inr (0, [.int lm, .ref w0, .int us]))] sz) := by
  refine Met.ofW (cc := cX5_clear) (maxL := 1) (ret := none) (by decide) rfl ?_
  intro p e s m args below meth c s₁ B hml hv
  obtain ⟨rfl, hsz, hP, hK, hD0, hN⟩ := hv
  have hx := B.exec
  have hb := B.bytes
  have hr := B.returns
  have hts := atoms_spec (ws := .code yX5_clear cX5_clear 1 none :: gw) B.pre
  have hg : ∀ w ∈ gw, w.before _ s = true := fun w h => hts w (List.mem_cons_of_mem _ h)
  have hown : s.vm.findClass RX5 = some m.cls := findClass_of_methodNamed B.named
  have hlocks := B.notSynchronized
  subst hsz
  have hD := hD0.self (sz := s.heap.size)
  generalize hAe : va_A [(h0, .inr (5, [.int l5, .ref h1])), (h1, .inr (0, [.int lm, .ref w0, .int us]))] s.heap.size = A at hD ⊢
  have hA : ∀ q : Nat, s.heap.size ≤ q → A q := fun q h => by rw [← hAe]; exact Or.inr h
  have hS : va_S A s.heap s.heap [] := va_S.rf
  have hP : va_P (dC, dI) vwCl [(h0, .inr (5, [.int l5, .ref h1])), (h1, .inr (0, [.int lm, .ref w0, .int us]))] s.heap := hP
  have hl := lv_entry ([.ref h0]) (n := 1) (Nat.le_of_ble_eq_true rfl)
  rw [lg_entry_eq]
  generalize (lg_sl ([.ref h0]) ++ List.replicate (1 - (lg_sl ([.ref h0])).length) Slot.unset).toArray = ls at hl ⊢
  have hl : lv_has ls 1 [(0, .ref h0)] := hl
  refine lv_aload_n hx hb dX5_clear_0 rfl (lv_at hl 0 rfl) ?_
  refine va_get (D := (dC, dI)) (ci := 5) (v := .ref h1) (C := RX5) (T := TX5) (N := 2) hx hb hg gb_5 hown hK hP 0 rfl rfl 1 (by decide) (hg _ gm_fieldLink_RX5_20_ErrandGuild_Ledger_cells_LErrandGuild_Cells_) (fun _ h9 => h9) rfl dX5_clear_1 ?_
  have hPc := hP.sub (ws' := [(h1, .inr (0, [.int lm, .ref w0, .int us]))]) [1] rfl
  have hDc := hD.sub (ws' := [(h1, .inr (0, [.int lm, .ref w0, .int us]))]) [1] (by decide) rfl
  have hKc := hK.sub (tys' := []) [] rfl
  have hFc := va_free (wc := [(h1, .inr (0, [.int lm, .ref w0, .int us]))]) hD hS hA [1] rfl
  refine va_callv (va_runV (As := []) (rest := []) ⟨hx, hb, hml, hown, hg⟩ (c_X0_clear l dC dI h1 w0 lm us s.heap.size ) (cwV 0 hg (gw_V gm_methodLink_RX5_24_yX0_clear gm_instanceMethod_yX0_clear gm_selects_RX0_yX0_clear_yX0_clear gm_initialized_RX0 gm_code_yX0_clear_cX0_clear_1_none) rfl rfl rfl (by decide +kernel) ⟨Nat.le_of_ble_eq_true rfl, Nat.le_of_ble_eq_true rfl⟩) ⟨fun a U g mk q => by obtain ⟨q0, q1, qP, qK, qD, qN⟩ := q; exact ⟨q0, q1, qP, va_K.moved (u := U) (U := U.calling g mk a) (Vm.Alike.refl U.vm) qK, qD, nx_same (u := U) (U := U.calling g mk a) rfl qN⟩, va_recv hKc hPc (ci := 0) (q0 := 0) rfl rfl, fun U hU hW => ⟨rfl, by rw [hU], by rw [hU]; exact hPc, va_K.moved hW.alike hKc, hDc.weaken (fun _ _ _ _ => trivial), nx_warm hW hN⟩⟩ rfl rfl hl.1 rfl (lv_room (Nat.le_of_ble_eq_true rfl)) dX5_clear_4 ⟨Nat.le_of_ble_eq_true rfl, Nat.le_of_ble_eq_true rfl⟩) hS (fun q _ h => hFc q h) hFc (fun u_2 t H1 locs ht hvm hw hB hz1 hk1 hS => ?_)
  have hP1 : va_P (dC, dI) vwCl [] H1 := nil_P
  have hD1 := nil_D (A := va_A [(h1, .inr (0, [.int lm, .ref w0, .int us]))] s.heap.size)
  obtain ⟨hP, hD⟩ := va_join (wr := [(h0, .inr (5, [.int l5, .ref h1]))]) (w1 := []) hP hD [1] [0] rfl rfl (by decide) (by decide +kernel) hk1 hFc hP1 hD1
  generalize H1 = H at hP hS ⊢
  have hP : va_P (dC, dI) vwCl [(h0, .inr (5, [.int l5, .ref h1]))] H := hP
  have hD : va_D A [(h0, .inr (5, [.int l5, .ref h1]))] := hD
  refine W.widen (k := 0) (n := 0) (Nat.le_of_ble_eq_true rfl) (Nat.le_of_ble_eq_true rfl) ?_
  exact W.vret hx hb hr (fun t ht hW => ⟨⟨(), rfl, trivial, trivial⟩, hS.F ht⟩) hS.2.2 dX5_clear_7

set_option maxHeartbeats 4000000 in
set_option maxRecDepth 100000 in
theorem c_X5_at (l : Launch) (dC : Nat → ClassId) (dI : Nat → Nat → Nat) (h0 : Nat) (h1 : Nat) (w0 : Nat) (l5 : Int32) (lm : Int32) (v1 : Int32) (v2 : Int32) (sz : Nat)  : Met l yX5_at (.code yX5_at cX5_at 4 (some .int) :: gw) ({ frames := 1, cells := 0, slots := 0, locals := 21 }) (va_Pc [.ref h0, .int v1, .int v2] (fun U => U.heap.size = sz ∧ va_P (dC, dI) vwCl [(h0, .inr (5, [.int l5, .ref h1])), (h1, .inr (0, [.int lm, .ref w0, .int 0]))] U.heap ∧ va_K (dC, dI) vwCl [] U ∧ va_D (fun _ => True) [(h0, .inr (5, [.int l5, .ref h1])), (h1, .inr (0, [.int lm, .ref w0, .int 0]))] ∧ nx U)) (va_Qi (fun (r : Int32) (u : Unit) => r = -1) (fun _ _ => True) (va_A [(h0, .inr (5, [.int l5, .ref h1])), (h1, .inr (0, [.int lm, .ref w0, .int 0]))] sz)) 0 0 (va_A [(h0, .inr (5, [.int l5, .ref h1])), (h1, .inr (0, [.int lm, .ref w0, .int 0]))] sz) := by
  refine Met.ofW (cc := cX5_at) (maxL := 4) (ret := (some .int)) (by decide) rfl ?_
  intro p e s m args below meth c s₁ B hml hv
  obtain ⟨rfl, hsz, hP, hK, hD0, hN⟩ := hv
  have hx := B.exec
  have hb := B.bytes
  have hr := B.returns
  have hts := atoms_spec (ws := .code yX5_at cX5_at 4 (some .int) :: gw) B.pre
  have hg : ∀ w ∈ gw, w.before _ s = true := fun w h => hts w (List.mem_cons_of_mem _ h)
  have hown : s.vm.findClass RX5 = some m.cls := findClass_of_methodNamed B.named
  have hlocks := B.notSynchronized
  subst hsz
  have hD := hD0.self (sz := s.heap.size)
  generalize hAe : va_A [(h0, .inr (5, [.int l5, .ref h1])), (h1, .inr (0, [.int lm, .ref w0, .int 0]))] s.heap.size = A at hD ⊢
  have hA : ∀ q : Nat, s.heap.size ≤ q → A q := fun q h => by rw [← hAe]; exact Or.inr h
  have hS : va_S A s.heap s.heap [] := va_S.rf
  have hP : va_P (dC, dI) vwCl [(h0, .inr (5, [.int l5, .ref h1])), (h1, .inr (0, [.int lm, .ref w0, .int 0]))] s.heap := hP
  have hl := lv_entry ([.ref h0, .int v1, .int v2]) (n := 4) (Nat.le_of_ble_eq_true rfl)
  rw [lg_entry_eq]
  generalize (lg_sl ([.ref h0, .int v1, .int v2]) ++ List.replicate (4 - (lg_sl ([.ref h0, .int v1, .int v2])).length) Slot.unset).toArray = ls at hl ⊢
  have hl : lv_has ls 4 [(0, .ref h0), (1, .int v1), (2, .int v2)] := hl
  refine lv_iload_n hx hb dX5_at_0 rfl (lv_at hl 1 rfl) ?_
  refine lv_if_lt (tgt := 21) hx hb dX5_at_1 (by decide) (fun c_1 => ?_) (fun c_1 => ?_)
  · simp only [i_lt, i_le, i_eq, ti_0] at c_1
    refine lv_iconst (v := -1) hx hb dX5_at_21 (by decide) ?_
    exact W.iret (v := -1) hx hb hr (fun t ht hW => ⟨⟨-1, (), rfl, rfl, trivial⟩, hS.F ht⟩) hS.2.2 dX5_at_22
  · simp only [i_lt, i_le, i_eq, ti_0] at c_1
    refine lv_iload_n hx hb dX5_at_4 rfl (lv_at hl 1 rfl) ?_
    refine lv_aload_n hx hb dX5_at_5 rfl (lv_at hl 0 rfl) ?_
    refine va_get (D := (dC, dI)) (ci := 5) (v := .int l5) (C := RX5) (T := TX5) (N := 2) hx hb hg gb_5 hown hK hP 0 rfl rfl 0 (by decide) (hg _ gm_fieldLink_RX5_9_ErrandGuild_Ledger_limit_I_) (fun _ h9 => h9) rfl dX5_at_6 ?_
    refine lv_icmp_ge (tgt := 21) hx hb dX5_at_9 (by decide) (fun c_2 => ?_) (fun c_2 => ?_)
    · simp only [i_lt, i_le, i_eq] at c_2
      refine lv_iconst (v := -1) hx hb dX5_at_21 (by decide) ?_
      exact W.iret (v := -1) hx hb hr (fun t ht hW => ⟨⟨-1, (), rfl, rfl, trivial⟩, hS.F ht⟩) hS.2.2 dX5_at_22
    · simp only [i_lt, i_le, i_eq] at c_2
      refine lv_iload_n hx hb dX5_at_12 rfl (lv_at hl 2 rfl) ?_
      refine lv_if_lt (tgt := 21) hx hb dX5_at_13 (by decide) (fun c_3 => ?_) (fun c_3 => ?_)
      · simp only [i_lt, i_le, i_eq, ti_0] at c_3
        refine lv_iconst (v := -1) hx hb dX5_at_21 (by decide) ?_
        exact W.iret (v := -1) hx hb hr (fun t ht hW => ⟨⟨-1, (), rfl, rfl, trivial⟩, hS.F ht⟩) hS.2.2 dX5_at_22
      · simp only [i_lt, i_le, i_eq, ti_0] at c_3
        refine lv_iload_n hx hb dX5_at_16 rfl (lv_at hl 2 rfl) ?_
        refine lv_iconst (v := 4) hx hb dX5_at_17 (by decide) ?_
        refine lv_icmp_lt (tgt := 23) hx hb dX5_at_18 (by decide) (fun c_4 => ?_) (fun c_4 => ?_)
        · simp only [i_lt, i_le, i_eq, ti_4] at c_4
          refine lv_iconst (v := 4) hx hb dX5_at_23 (by decide) ?_
          refine lv_iload_n hx hb dX5_at_24 rfl (lv_at hl 1 rfl) ?_
          refine lv_imul hx hb dX5_at_25 ?_
          refine lv_topi (fun z_5 ez_5 => ?_)
          refine lv_iload_n hx hb dX5_at_26 rfl (lv_at hl 2 rfl) ?_
          refine lv_iadd hx hb dX5_at_27 ?_
          refine lv_topi (fun z_6 ez_6 => ?_)
          refine lv_istore_n (lv' := [(3, .int z_6), (0, .ref h0), (1, .int v1), (2, .int v2)]) hx hb dX5_at_28 rfl hl (by decide) rfl (fun ls hl => ?_)
          refine lv_aload_n hx hb dX5_at_29 rfl (lv_at hl 1 rfl) ?_
          refine va_get (D := (dC, dI)) (ci := 5) (v := .ref h1) (C := RX5) (T := TX5) (N := 2) hx hb hg gb_5 hown hK hP 0 rfl rfl 1 (by decide) (hg _ gm_fieldLink_RX5_20_ErrandGuild_Ledger_cells_LErrandGuild_Cells_) (fun _ h9 => h9) rfl dX5_at_30 ?_
          refine lv_iload_n hx hb dX5_at_33 rfl (lv_at hl 0 rfl) ?_
          have hPc := hP.sub (ws' := [(h1, .inr (0, [.int lm, .ref w0, .int 0]))]) [1] rfl
          have hDc := hD.sub (ws' := [(h1, .inr (0, [.int lm, .ref w0, .int 0]))]) [1] (by decide) rfl
          have hKc := hK.sub (tys' := []) [] rfl
          have hFc := va_free (wc := [(h1, .inr (0, [.int lm, .ref w0, .int 0]))]) hD hS hA [1] rfl
          refine va_calli (va_runV (As := [.int z_6]) (rest := []) ⟨hx, hb, hml, hown, hg⟩ (c_X0_has l dC dI h1 w0 lm z_6 s.heap.size ) (cwV 1 hg (gw_V gm_methodLink_RX5_30_yX0_has gm_instanceMethod_yX0_has gm_selects_RX0_yX0_has_yX0_has gm_initialized_RX0 gm_code_yX0_has_cX0_has_2_some_boolean_) rfl rfl rfl (by decide +kernel) ⟨Nat.le_of_ble_eq_true rfl, Nat.le_of_ble_eq_true rfl⟩) ⟨fun a U g mk q => by obtain ⟨q0, q1, qP, qK, qD, qN⟩ := q; exact ⟨q0, q1, qP, va_K.moved (u := U) (U := U.calling g mk a) (Vm.Alike.refl U.vm) qK, qD, nx_same (u := U) (U := U.calling g mk a) rfl qN⟩, va_recv hKc hPc (ci := 0) (q0 := 0) rfl rfl, fun U hU hW => ⟨rfl, by rw [hU], by rw [hU]; exact hPc, va_K.moved hW.alike hKc, hDc.weaken (fun _ _ _ _ => trivial), nx_warm hW hN⟩⟩ rfl rfl hl.1 rfl (lv_room (Nat.le_of_ble_eq_true rfl)) dX5_at_34 ⟨Nat.le_of_ble_eq_true rfl, Nat.le_of_ble_eq_true rfl⟩) hS (fun q _ h => hFc q h) hFc (fun r_7 u_8 t H1 locs ht hvm hw hB hz1 hk1 hS => ?_)
          have hP1 : va_P (dC, dI) vwCl [] H1 := nil_P
          have hD1 := nil_D (A := va_A [(h1, .inr (0, [.int lm, .ref w0, .int 0]))] s.heap.size)
          obtain ⟨hP, hD⟩ := va_join (wr := [(h0, .inr (5, [.int l5, .ref h1]))]) (w1 := []) hP hD [1] [0] rfl rfl (by decide) (by decide +kernel) hk1 hFc hP1 hD1
          generalize H1 = H at hP hS ⊢
          have hP : va_P (dC, dI) vwCl [(h0, .inr (5, [.int l5, .ref h1]))] H := hP
          have hD : va_D A [(h0, .inr (5, [.int l5, .ref h1]))] := hD
          refine W.widen (k := 0) (n := 0) (Nat.le_of_ble_eq_true rfl) (Nat.le_of_ble_eq_true rfl) ?_
          obtain rfl : r_7 = 0 := hw
          refine lv_if_eq (tgt := 51) hx hb dX5_at_37 (by decide) (fun _ => ?_) (fun c_9 => absurd c_9 (by decide))
          refine lv_iconst (v := -1) hx hb dX5_at_51 (by decide) ?_
          exact W.iret (v := -1) hx hb hr (fun t ht hW => ⟨⟨-1, (), rfl, rfl, trivial⟩, hS.F ht⟩) hS.2.2 dX5_at_52
        · simp only [i_lt, i_le, i_eq, ti_4] at c_4
          refine lv_iconst (v := -1) hx hb dX5_at_21 (by decide) ?_
          exact W.iret (v := -1) hx hb hr (fun t ht hW => ⟨⟨-1, (), rfl, rfl, trivial⟩, hS.F ht⟩) hS.2.2 dX5_at_22

set_option maxHeartbeats 4000000 in
set_option maxRecDepth 100000 in
theorem c_X1_add (l : Launch) (dC : Nat → ClassId) (dI : Nat → Nat → Nat) (h0 : Nat) (w0 : Nat) (w1 : Nat) (w2 : Nat) (k0 : ClassId) (k1 : ClassId) (k2 : ClassId) (f0 : Nat → Int32) (f1 : Nat → Int32) (f2 : Nat → Int32) (v1 : Int32) (v2 : Int32) (v3 : Int32) (sz : Nat)  : Met l yX1_add (.code yX1_add cX1_add 4 none :: gw) ({ frames := 0, cells := 0, slots := 0, locals := 0 }) (va_Pc [.ref h0, .int v1, .int v2, .int v3] (fun U => U.heap.size = sz ∧ va_P (dC, dI) vwCl [(h0, .inr (1, [.ref w0, .ref w1, .ref w2, .int 0])), (w0, .inl (k0, 24, .inl f0)), (w1, .inl (k1, 24, .inl f1)), (w2, .inl (k2, 24, .inl f2))] U.heap ∧ va_K (dC, dI) vwCl [(k0, .int), (k1, .int), (k2, .int)] U ∧ va_D (fun _ => True) [(h0, .inr (1, [.ref w0, .ref w1, .ref w2, .int 0])), (w0, .inl (k0, 24, .inl f0)), (w1, .inl (k1, 24, .inl f1)), (w2, .inl (k2, 24, .inl f2))] ∧ nx U)) (va_Qv (fun (u : wS) => True) (fun u t => va_P (dC, dI) vwCl [(h0, .inr (1, [.ref w0, .ref w1, .ref w2, .int 1]))] t.heap ∧ va_D (va_A [(h0, .inr (1, [.ref w0, .ref w1, .ref w2, .int 0])), (w0, .inl (k0, 24, .inl f0)), (w1, .inl (k1, 24, .inl f1)), (w2, .inl (k2, 24, .inl f2))] sz) [(h0, .inr (1, [.ref w0, .ref w1, .ref w2, .int 1]))] ∧ va_K (dC, dI) vwCl [] t) (va_A [(h0, .inr (1, [.ref w0, .ref w1, .ref w2, .int 0])), (w0, .inl (k0, 24, .inl f0)), (w1, .inl (k1, 24, .inl f1)), (w2, .inl (k2, 24, .inl f2))] sz)) 0 0 (va_A [(h0, .inr (1, [.ref w0, .ref w1, .ref w2, .int 0])), (w0, .inl (k0, 24, .inl f0)), (w1, .inl (k1, 24, .inl f1)), (w2, .inl (k2, 24, .inl f2))] sz) := by
  refine Met.ofW (cc := cX1_add) (maxL := 4) (ret := none) (by decide) rfl ?_
  intro p e s m args below meth c s₁ B hml hv
  obtain ⟨rfl, hsz, hP, hK, hD0, hN⟩ := hv
  have hx := B.exec
  have hb := B.bytes
  have hr := B.returns
  have hts := atoms_spec (ws := .code yX1_add cX1_add 4 none :: gw) B.pre
  have hg : ∀ w ∈ gw, w.before _ s = true := fun w h => hts w (List.mem_cons_of_mem _ h)
  have hown : s.vm.findClass RX1 = some m.cls := findClass_of_methodNamed B.named
  have hlocks := B.notSynchronized
  subst hsz
  have hD := hD0.self (sz := s.heap.size)
  generalize hAe : va_A [(h0, .inr (1, [.ref w0, .ref w1, .ref w2, .int 0])), (w0, .inl (k0, 24, .inl f0)), (w1, .inl (k1, 24, .inl f1)), (w2, .inl (k2, 24, .inl f2))] s.heap.size = A at hD ⊢
  have hA : ∀ q : Nat, s.heap.size ≤ q → A q := fun q h => by rw [← hAe]; exact Or.inr h
  have hS : va_S A s.heap s.heap [] := va_S.rf
  have hP : va_P (dC, dI) vwCl [(h0, .inr (1, [.ref w0, .ref w1, .ref w2, .int 0])), (w0, .inl (k0, 24, .inl f0)), (w1, .inl (k1, 24, .inl f1)), (w2, .inl (k2, 24, .inl f2))] s.heap := hP
  have hl := lv_entry ([.ref h0, .int v1, .int v2, .int v3]) (n := 4) (Nat.le_of_ble_eq_true rfl)
  rw [lg_entry_eq]
  generalize (lg_sl ([.ref h0, .int v1, .int v2, .int v3]) ++ List.replicate (4 - (lg_sl ([.ref h0, .int v1, .int v2, .int v3])).length) Slot.unset).toArray = ls at hl ⊢
  have hl : lv_has ls 4 [(0, .ref h0), (1, .int v1), (2, .int v2), (3, .int v3)] := hl
  refine lv_aload_n hx hb dX1_add_0 rfl (lv_at hl 0 rfl) ?_
  refine va_get (D := (dC, dI)) (ci := 1) (v := .int 0) (C := RX1) (T := TX1) (N := 4) hx hb hg gb_1 hown hK hP 0 rfl rfl 3 (by decide) (hg _ gm_fieldLink_RX1_21_ErrandGuild_Errand_count_I_) (fun _ h9 => h9) rfl dX1_add_1 ?_
  refine lv_if_lt (tgt := 16) hx hb dX1_add_4 (by decide) (fun c_1 => absurd c_1 (by decide)) (fun _ => ?_)
  refine lv_aload_n hx hb dX1_add_7 rfl (lv_at hl 0 rfl) ?_
  refine va_get (D := (dC, dI)) (ci := 1) (v := .int 0) (C := RX1) (T := TX1) (N := 4) hx hb hg gb_1 hown hK hP 0 rfl rfl 3 (by decide) (hg _ gm_fieldLink_RX1_21_ErrandGuild_Errand_count_I_) (fun _ h9 => h9) rfl dX1_add_8 ?_
  refine lv_bipush (v := 24) hx hb dX1_add_11 (by decide) ?_
  refine lv_icmp_lt (tgt := 17) hx hb dX1_add_13 (by decide) (fun _ => ?_) (fun c_2 => absurd c_2 (by decide))
  refine lv_aload_n hx hb dX1_add_17 rfl (lv_at hl 0 rfl) ?_
  refine va_get (D := (dC, dI)) (ci := 1) (v := .ref w0) (C := RX1) (T := TX1) (N := 4) hx hb hg gb_1 hown hK hP 0 rfl rfl 0 (by decide) (hg _ gm_fieldLink_RX1_9_ErrandGuild_Errand_ops_AI_) (fun _ h9 => h9) rfl dX1_add_18 ?_
  refine lv_aload_n hx hb dX1_add_21 rfl (lv_at hl 0 rfl) ?_
  refine va_get (D := (dC, dI)) (ci := 1) (v := .int 0) (C := RX1) (T := TX1) (N := 4) hx hb hg gb_1 hown hK hP 0 rfl rfl 3 (by decide) (hg _ gm_fieldLink_RX1_21_ErrandGuild_Errand_count_I_) (fun _ h9 => h9) rfl dX1_add_22 ?_
  refine lv_iload_n hx hb dX1_add_25 rfl (lv_at hl 1 rfl) ?_
  refine va_iast hx hb hK hP hD hS 1 0 rfl rfl (by unfold vp_in; decide) dX1_add_26 (fun H locs hP hD hS => ?_)
  have hP : va_P (dC, dI) vwCl [(h0, .inr (1, [.ref w0, .ref w1, .ref w2, .int 0])), (w0, .inl (k0, 24, .inl (upd f0 (Int32.toNatClampNeg 0) v1))), (w1, .inl (k1, 24, .inl f1)), (w2, .inl (k2, 24, .inl f2))] H := hP
  have hD : va_D A [(h0, .inr (1, [.ref w0, .ref w1, .ref w2, .int 0])), (w0, .inl (k0, 24, .inl (upd f0 (Int32.toNatClampNeg 0) v1))), (w1, .inl (k1, 24, .inl f1)), (w2, .inl (k2, 24, .inl f2))] := hD
  refine lv_aload_n hx hb dX1_add_27 rfl (lv_at hl 0 rfl) ?_
  refine va_get (D := (dC, dI)) (ci := 1) (v := .ref w1) (C := RX1) (T := TX1) (N := 4) hx hb hg gb_1 hown hK hP 0 rfl rfl 1 (by decide) (hg _ gm_fieldLink_RX1_15_ErrandGuild_Errand_as_AI_) (fun _ h9 => h9) rfl dX1_add_28 ?_
  refine lv_aload_n hx hb dX1_add_31 rfl (lv_at hl 0 rfl) ?_
  refine va_get (D := (dC, dI)) (ci := 1) (v := .int 0) (C := RX1) (T := TX1) (N := 4) hx hb hg gb_1 hown hK hP 0 rfl rfl 3 (by decide) (hg _ gm_fieldLink_RX1_21_ErrandGuild_Errand_count_I_) (fun _ h9 => h9) rfl dX1_add_32 ?_
  refine lv_iload_n hx hb dX1_add_35 rfl (lv_at hl 2 rfl) ?_
  refine va_iast hx hb hK hP hD hS 2 1 rfl rfl (by unfold vp_in; decide) dX1_add_36 (fun H locs hP hD hS => ?_)
  have hP : va_P (dC, dI) vwCl [(h0, .inr (1, [.ref w0, .ref w1, .ref w2, .int 0])), (w0, .inl (k0, 24, .inl (upd f0 (Int32.toNatClampNeg 0) v1))), (w1, .inl (k1, 24, .inl (upd f1 (Int32.toNatClampNeg 0) v2))), (w2, .inl (k2, 24, .inl f2))] H := hP
  have hD : va_D A [(h0, .inr (1, [.ref w0, .ref w1, .ref w2, .int 0])), (w0, .inl (k0, 24, .inl (upd f0 (Int32.toNatClampNeg 0) v1))), (w1, .inl (k1, 24, .inl (upd f1 (Int32.toNatClampNeg 0) v2))), (w2, .inl (k2, 24, .inl f2))] := hD
  refine lv_aload_n hx hb dX1_add_37 rfl (lv_at hl 0 rfl) ?_
  refine va_get (D := (dC, dI)) (ci := 1) (v := .ref w2) (C := RX1) (T := TX1) (N := 4) hx hb hg gb_1 hown hK hP 0 rfl rfl 2 (by decide) (hg _ gm_fieldLink_RX1_18_ErrandGuild_Errand_bs_AI_) (fun _ h9 => h9) rfl dX1_add_38 ?_
  refine lv_aload_n hx hb dX1_add_41 rfl (lv_at hl 0 rfl) ?_
  refine va_get (D := (dC, dI)) (ci := 1) (v := .int 0) (C := RX1) (T := TX1) (N := 4) hx hb hg gb_1 hown hK hP 0 rfl rfl 3 (by decide) (hg _ gm_fieldLink_RX1_21_ErrandGuild_Errand_count_I_) (fun _ h9 => h9) rfl dX1_add_42 ?_
  refine lv_iload_n hx hb dX1_add_45 rfl (lv_at hl 3 rfl) ?_
  refine va_iast hx hb hK hP hD hS 3 2 rfl rfl (by unfold vp_in; decide) dX1_add_46 (fun H locs hP hD hS => ?_)
  have hP : va_P (dC, dI) vwCl [(h0, .inr (1, [.ref w0, .ref w1, .ref w2, .int 0])), (w0, .inl (k0, 24, .inl (upd f0 (Int32.toNatClampNeg 0) v1))), (w1, .inl (k1, 24, .inl (upd f1 (Int32.toNatClampNeg 0) v2))), (w2, .inl (k2, 24, .inl (upd f2 (Int32.toNatClampNeg 0) v3)))] H := hP
  have hD : va_D A [(h0, .inr (1, [.ref w0, .ref w1, .ref w2, .int 0])), (w0, .inl (k0, 24, .inl (upd f0 (Int32.toNatClampNeg 0) v1))), (w1, .inl (k1, 24, .inl (upd f1 (Int32.toNatClampNeg 0) v2))), (w2, .inl (k2, 24, .inl (upd f2 (Int32.toNatClampNeg 0) v3)))] := hD
  refine lv_aload_n hx hb dX1_add_47 rfl (lv_at hl 0 rfl) ?_
  refine lv_dup hx hb dX1_add_48 rfl ?_
  refine va_get (D := (dC, dI)) (ci := 1) (v := .int 0) (C := RX1) (T := TX1) (N := 4) hx hb hg gb_1 hown hK hP 0 rfl rfl 3 (by decide) (hg _ gm_fieldLink_RX1_21_ErrandGuild_Errand_count_I_) (fun _ h9 => h9) rfl dX1_add_49 ?_
  refine lv_iconst (v := 1) hx hb dX1_add_52 (by decide) ?_
  refine lv_iadd hx hb dX1_add_53 ?_
  refine lv_topi (fun z_3 ez_3 => ?_)
  obtain rfl : z_3 = 1 := ez_3.trans (by decide)
  refine va_put (D := (dC, dI)) (ci := 1) (v := .int 1) (ty := .int) (C := RX1) (T := TX1) (N := 4) hx hb hg gb_1 tyX1 tyX1_ok nmX1 hown hK hP hD hS 0 rfl rfl 3 (by decide) (hg _ gm_fieldLink_RX1_21_ErrandGuild_Errand_count_I_) (fun _ h9 => h9) rfl (by decide +kernel) rfl rfl (Nat.le_of_ble_eq_true rfl) dX1_add_54 (fun H locs hP hD hS => ?_)
  have hP : va_P (dC, dI) vwCl [(h0, .inr (1, [.ref w0, .ref w1, .ref w2, .int 1])), (w0, .inl (k0, 24, .inl (upd f0 (Int32.toNatClampNeg 0) v1))), (w1, .inl (k1, 24, .inl (upd f1 (Int32.toNatClampNeg 0) v2))), (w2, .inl (k2, 24, .inl (upd f2 (Int32.toNatClampNeg 0) v3)))] H := hP
  have hD : va_D A [(h0, .inr (1, [.ref w0, .ref w1, .ref w2, .int 1])), (w0, .inl (k0, 24, .inl (upd f0 (Int32.toNatClampNeg 0) v1))), (w1, .inl (k1, 24, .inl (upd f1 (Int32.toNatClampNeg 0) v2))), (w2, .inl (k2, 24, .inl (upd f2 (Int32.toNatClampNeg 0) v3)))] := hD
  have hP9 := hP.sub (ws' := [(h0, .inr (1, [.ref w0, .ref w1, .ref w2, .int 1]))]) [0] rfl
  have hD9 := hD.sub (ws' := [(h0, .inr (1, [.ref w0, .ref w1, .ref w2, .int 1]))]) [0] (by decide) rfl
  have hK9 := hK.sub (tys' := []) [] rfl
  exact W.vret hx hb hr (fun t ht hW => ⟨⟨((fun _ => 0), (fun _ => (dC 0)), (fun _ => (fun _ => 0)), (fun _ => (fun _ => none))), rfl, trivial, by rw [ht]; exact hP9, hD9, va_K.moved hW.alike hK9⟩, hS.F ht⟩) hS.2.2 dX1_add_57

set_option maxHeartbeats 4000000 in
set_option maxRecDepth 100000 in
theorem c_X3_indexOf (l : Launch) (dC : Nat → ClassId) (dI : Nat → Nat → Nat) (v1 : Int32) (v2 : Int32) (sz : Nat)  : Met l yX3_indexOf (.code yX3_indexOf cX3_indexOf 2 (some .int) :: gw) ({ frames := 1, cells := 0, slots := 0, locals := 20 }) (va_Pc [.int v1, .int v2] (fun U => U.heap.size = sz ∧ va_P (dC, dI) vwCl [] U.heap ∧ va_K (dC, dI) vwCl [] U ∧ va_D (fun _ => True) [] ∧ nx U)) (va_Qi (fun (r : Int32) (u : Unit) => (v1.toInt = 2 ∧ r.toInt = 16) ∨ (v1.toInt = 0 ∧ 0 ≤ v2.toInt ∧ v2.toInt < 8 ∧ r.toInt = v2.toInt) ∨ (v1.toInt = 1 ∧ 0 ≤ v2.toInt ∧ v2.toInt < 8 ∧ r.toInt = 8 + v2.toInt) ∨ (r.toInt = -1 ∧ ¬ (v1.toInt = 2 ∨ ((v1.toInt = 0 ∨ v1.toInt = 1) ∧ 0 ≤ v2.toInt ∧ v2.toInt < 8)))) (fun _ _ => True) (va_A [] sz)) 0 0 (va_A [] sz) := by
  refine Met.ofW (cc := cX3_indexOf) (maxL := 2) (ret := (some .int)) (by decide) rfl ?_
  intro p e s m args below meth c s₁ B hml hv
  obtain ⟨rfl, hsz, hP, hK, hD0, hN⟩ := hv
  have hx := B.exec
  have hb := B.bytes
  have hr := B.returns
  have hts := atoms_spec (ws := .code yX3_indexOf cX3_indexOf 2 (some .int) :: gw) B.pre
  have hg : ∀ w ∈ gw, w.before _ s = true := fun w h => hts w (List.mem_cons_of_mem _ h)
  have hown : s.vm.findClass RX3 = some m.cls := findClass_of_methodNamed B.named
  have hlocks := B.notSynchronized
  subst hsz
  have hD := hD0.self (sz := s.heap.size)
  generalize hAe : va_A [] s.heap.size = A at hD ⊢
  have hA : ∀ q : Nat, s.heap.size ≤ q → A q := fun q h => by rw [← hAe]; exact Or.inr h
  have hS : va_S A s.heap s.heap [] := va_S.rf
  have hP : va_P (dC, dI) vwCl [] s.heap := hP
  have hl := lv_entry ([.int v1, .int v2]) (n := 2) (Nat.le_of_ble_eq_true rfl)
  rw [lg_entry_eq]
  generalize (lg_sl ([.int v1, .int v2]) ++ List.replicate (2 - (lg_sl ([.int v1, .int v2])).length) Slot.unset).toArray = ls at hl ⊢
  have hl : lv_has ls 2 [(0, .int v1), (1, .int v2)] := hl
  refine lv_iload_n hx hb dX3_indexOf_0 rfl (lv_at hl 0 rfl) ?_
  refine lv_iconst (v := 2) hx hb dX3_indexOf_1 (by decide) ?_
  refine lv_icmp_ne (tgt := 8) hx hb dX3_indexOf_2 (by decide) (fun c_1 => ?_) (fun c_1 => ?_)
  · simp only [i_lt, i_le, i_eq, ti_2] at c_1
    refine lv_iload_n hx hb dX3_indexOf_8 rfl (lv_at hl 0 rfl) ?_
    refine lv_if_ne (tgt := 21) hx hb dX3_indexOf_9 (by decide) (fun c_2 => ?_) (fun c_2 => ?_)
    · simp only [i_lt, i_le, i_eq, ti_0] at c_2
      refine lv_iload_n hx hb dX3_indexOf_21 rfl (lv_at hl 0 rfl) ?_
      refine lv_iconst (v := 1) hx hb dX3_indexOf_22 (by decide) ?_
      refine lv_icmp_ne (tgt := 41) hx hb dX3_indexOf_23 (by decide) (fun c_3 => ?_) (fun c_3 => ?_)
      · simp only [i_lt, i_le, i_eq, ti_1] at c_3
        refine lv_iconst (v := -1) hx hb dX3_indexOf_41 (by decide) ?_
        exact W.iret (v := -1) hx hb hr (fun t ht hW => ⟨⟨-1, (), rfl, (by have t_ := ti_m1; show (v1.toInt = 2 ∧ (-1 : Int32).toInt = 16) ∨ (v1.toInt = 0 ∧ 0 ≤ v2.toInt ∧ v2.toInt < 8 ∧ (-1 : Int32).toInt = v2.toInt) ∨ (v1.toInt = 1 ∧ 0 ≤ v2.toInt ∧ v2.toInt < 8 ∧ (-1 : Int32).toInt = 8 + v2.toInt) ∨ ((-1 : Int32).toInt = -1 ∧ ¬ (v1.toInt = 2 ∨ ((v1.toInt = 0 ∨ v1.toInt = 1) ∧ 0 ≤ v2.toInt ∧ v2.toInt < 8))); omega), trivial⟩, hS.F ht⟩) hS.2.2 dX3_indexOf_42
      · simp only [i_lt, i_le, i_eq, ti_1] at c_3
        refine lv_iload_n hx hb dX3_indexOf_26 rfl (lv_at hl 1 rfl) ?_
        refine lv_if_lt (tgt := 41) hx hb dX3_indexOf_27 (by decide) (fun c_4 => ?_) (fun c_4 => ?_)
        · simp only [i_lt, i_le, i_eq, ti_0] at c_4
          refine lv_iconst (v := -1) hx hb dX3_indexOf_41 (by decide) ?_
          exact W.iret (v := -1) hx hb hr (fun t ht hW => ⟨⟨-1, (), rfl, (by have t_ := ti_m1; show (v1.toInt = 2 ∧ (-1 : Int32).toInt = 16) ∨ (v1.toInt = 0 ∧ 0 ≤ v2.toInt ∧ v2.toInt < 8 ∧ (-1 : Int32).toInt = v2.toInt) ∨ (v1.toInt = 1 ∧ 0 ≤ v2.toInt ∧ v2.toInt < 8 ∧ (-1 : Int32).toInt = 8 + v2.toInt) ∨ ((-1 : Int32).toInt = -1 ∧ ¬ (v1.toInt = 2 ∨ ((v1.toInt = 0 ∨ v1.toInt = 1) ∧ 0 ≤ v2.toInt ∧ v2.toInt < 8))); omega), trivial⟩, hS.F ht⟩) hS.2.2 dX3_indexOf_42
        · simp only [i_lt, i_le, i_eq, ti_0] at c_4
          refine lv_iload_n hx hb dX3_indexOf_30 rfl (lv_at hl 1 rfl) ?_
          refine lv_bipush (v := 8) hx hb dX3_indexOf_31 (by decide) ?_
          refine lv_icmp_ge (tgt := 41) hx hb dX3_indexOf_33 (by decide) (fun c_5 => ?_) (fun c_5 => ?_)
          · simp only [i_lt, i_le, i_eq, ti_8] at c_5
            refine lv_iconst (v := -1) hx hb dX3_indexOf_41 (by decide) ?_
            exact W.iret (v := -1) hx hb hr (fun t ht hW => ⟨⟨-1, (), rfl, (by have t_ := ti_m1; show (v1.toInt = 2 ∧ (-1 : Int32).toInt = 16) ∨ (v1.toInt = 0 ∧ 0 ≤ v2.toInt ∧ v2.toInt < 8 ∧ (-1 : Int32).toInt = v2.toInt) ∨ (v1.toInt = 1 ∧ 0 ≤ v2.toInt ∧ v2.toInt < 8 ∧ (-1 : Int32).toInt = 8 + v2.toInt) ∨ ((-1 : Int32).toInt = -1 ∧ ¬ (v1.toInt = 2 ∨ ((v1.toInt = 0 ∨ v1.toInt = 1) ∧ 0 ≤ v2.toInt ∧ v2.toInt < 8))); omega), trivial⟩, hS.F ht⟩) hS.2.2 dX3_indexOf_42
          · simp only [i_lt, i_le, i_eq, ti_8] at c_5
            refine lv_bipush (v := 8) hx hb dX3_indexOf_36 (by decide) ?_
            refine lv_iload_n hx hb dX3_indexOf_38 rfl (lv_at hl 1 rfl) ?_
            refine lv_iadd hx hb dX3_indexOf_39 ?_
            refine lv_topi (fun z_6 ez_6 => ?_)
            have tz_6 : z_6.toInt = 8 + v2.toInt := ar_add ti_8 rfl ez_6 (by omega)
            exact W.iret (v := z_6) hx hb hr (fun t ht hW => ⟨⟨z_6, (), rfl, (by show (v1.toInt = 2 ∧ (z_6 : Int32).toInt = 16) ∨ (v1.toInt = 0 ∧ 0 ≤ v2.toInt ∧ v2.toInt < 8 ∧ (z_6 : Int32).toInt = v2.toInt) ∨ (v1.toInt = 1 ∧ 0 ≤ v2.toInt ∧ v2.toInt < 8 ∧ (z_6 : Int32).toInt = 8 + v2.toInt) ∨ ((z_6 : Int32).toInt = -1 ∧ ¬ (v1.toInt = 2 ∨ ((v1.toInt = 0 ∨ v1.toInt = 1) ∧ 0 ≤ v2.toInt ∧ v2.toInt < 8))); omega), trivial⟩, hS.F ht⟩) hS.2.2 dX3_indexOf_40
    · simp only [i_lt, i_le, i_eq, ti_0] at c_2
      refine lv_iload_n hx hb dX3_indexOf_12 rfl (lv_at hl 1 rfl) ?_
      have hPc := hP.sub (ws' := []) [] rfl
      have hDc := hD.sub (ws' := []) [] (by decide) rfl
      have hKc := hK.sub (tys' := []) [] rfl
      have hFc := va_free (wc := []) hD hS hA [] rfl
      refine va_calli (va_runSN (As := [.int v2]) (rest := []) ⟨hx, hb, hml, hown, hg⟩ (c_X9_isErrand l dC dI v2 s.heap.size ) (⟨va_cnB 1 hg (gw_c gm_code_yX9_isErrand_cX9_isErrand_1_some_boolean_) rfl rfl rfl (nx_RX3_22 hN) (hg _ gm_initialized_RX9) (by decide +kernel) ⟨Nat.le_of_ble_eq_true rfl, Nat.le_of_ble_eq_true rfl⟩, hg _ gm_static_yX9_isErrand, trivial⟩) ⟨fun a U g mk q => by obtain ⟨q0, q1, qP, qK, qD, qN⟩ := q; exact ⟨q0, q1, qP, va_K.moved (u := U) (U := U.calling g mk a) (Vm.Alike.refl U.vm) qK, qD, nx_same (u := U) (U := U.calling g mk a) rfl qN⟩, fun U hU hW => ⟨rfl, by rw [hU], by rw [hU]; exact hPc, va_K.moved hW.alike hKc, hDc.weaken (fun _ _ _ _ => trivial), nx_warm hW hN⟩⟩ rfl rfl hl.1 rfl (lv_room (Nat.le_of_ble_eq_true rfl)) dX3_indexOf_13 ⟨Nat.le_of_ble_eq_true rfl, Nat.le_of_ble_eq_true rfl⟩) hS (fun q _ h => hFc q h) hFc (fun r_7 u_8 t H1 locs ht hvm hw hB hz1 hk1 hS => ?_)
      have hP1 : va_P (dC, dI) vwCl [] H1 := nil_P
      have hD1 := nil_D (A := va_A [] s.heap.size)
      obtain ⟨hP, hD⟩ := va_join (wr := []) (w1 := []) hP hD [] [] rfl rfl (by decide) (by decide +kernel) hk1 hFc hP1 hD1
      generalize H1 = H at hP hS ⊢
      have hP : va_P (dC, dI) vwCl [] H := hP
      have hD : va_D A [] := hD
      refine W.widen (k := 0) (n := 0) (Nat.le_of_ble_eq_true rfl) (Nat.le_of_ble_eq_true rfl) ?_
      rcases hw with ⟨rfl, w_9⟩ | ⟨rfl, w_9⟩
      · refine lv_if_eq (tgt := 21) hx hb dX3_indexOf_16 (by decide) (fun c_10 => absurd c_10 (by decide)) (fun _ => ?_)
        refine lv_iload_n hx hb dX3_indexOf_19 rfl (lv_at hl 1 rfl) ?_
        exact W.iret (v := v2) hx hb hr (fun t ht hW => ⟨⟨v2, (), rfl, (by show (v1.toInt = 2 ∧ (v2 : Int32).toInt = 16) ∨ (v1.toInt = 0 ∧ 0 ≤ v2.toInt ∧ v2.toInt < 8 ∧ (v2 : Int32).toInt = v2.toInt) ∨ (v1.toInt = 1 ∧ 0 ≤ v2.toInt ∧ v2.toInt < 8 ∧ (v2 : Int32).toInt = 8 + v2.toInt) ∨ ((v2 : Int32).toInt = -1 ∧ ¬ (v1.toInt = 2 ∨ ((v1.toInt = 0 ∨ v1.toInt = 1) ∧ 0 ≤ v2.toInt ∧ v2.toInt < 8))); omega), trivial⟩, hS.F ht⟩) hS.2.2 dX3_indexOf_20
      · refine lv_if_eq (tgt := 21) hx hb dX3_indexOf_16 (by decide) (fun _ => ?_) (fun c_11 => absurd c_11 (by decide))
        refine lv_iload_n hx hb dX3_indexOf_21 rfl (lv_at hl 0 rfl) ?_
        refine lv_iconst (v := 1) hx hb dX3_indexOf_22 (by decide) ?_
        refine lv_icmp_ne (tgt := 41) hx hb dX3_indexOf_23 (by decide) (fun c_12 => ?_) (fun c_12 => ?_)
        · simp only [i_lt, i_le, i_eq, ti_1] at c_12
          refine lv_iconst (v := -1) hx hb dX3_indexOf_41 (by decide) ?_
          exact W.iret (v := -1) hx hb hr (fun t ht hW => ⟨⟨-1, (), rfl, (by have t_ := ti_m1; show (v1.toInt = 2 ∧ (-1 : Int32).toInt = 16) ∨ (v1.toInt = 0 ∧ 0 ≤ v2.toInt ∧ v2.toInt < 8 ∧ (-1 : Int32).toInt = v2.toInt) ∨ (v1.toInt = 1 ∧ 0 ≤ v2.toInt ∧ v2.toInt < 8 ∧ (-1 : Int32).toInt = 8 + v2.toInt) ∨ ((-1 : Int32).toInt = -1 ∧ ¬ (v1.toInt = 2 ∨ ((v1.toInt = 0 ∨ v1.toInt = 1) ∧ 0 ≤ v2.toInt ∧ v2.toInt < 8))); omega), trivial⟩, hS.F ht⟩) hS.2.2 dX3_indexOf_42
        · simp only [i_lt, i_le, i_eq, ti_1] at c_12
          exfalso
          omega
  · simp only [i_lt, i_le, i_eq, ti_2] at c_1
    refine lv_bipush (v := 16) hx hb dX3_indexOf_5 (by decide) ?_
    exact W.iret (v := 16) hx hb hr (fun t ht hW => ⟨⟨16, (), rfl, (by have t_ := ti_16; show (v1.toInt = 2 ∧ (16 : Int32).toInt = 16) ∨ (v1.toInt = 0 ∧ 0 ≤ v2.toInt ∧ v2.toInt < 8 ∧ (16 : Int32).toInt = v2.toInt) ∨ (v1.toInt = 1 ∧ 0 ≤ v2.toInt ∧ v2.toInt < 8 ∧ (16 : Int32).toInt = 8 + v2.toInt) ∨ ((16 : Int32).toInt = -1 ∧ ¬ (v1.toInt = 2 ∨ ((v1.toInt = 0 ∨ v1.toInt = 1) ∧ 0 ≤ v2.toInt ∧ v2.toInt < 8))); omega), trivial⟩, hS.F ht⟩) hS.2.2 dX3_indexOf_7

set_option maxHeartbeats 4000000 in
set_option maxRecDepth 100000 in
theorem c_X3_put (l : Launch) (dC : Nat → ClassId) (dI : Nat → Nat → Nat) (h0 : Nat) (w0 : Nat) (w1 : Nat) (w2 : Nat) (k0 : ClassId) (k1 : ClassId) (k2 : ClassId) (f0 : Nat → Int32) (f1 : Nat → Int32) (f2 : Nat → Int32) (v1 : Int32) (v2 : Int32) (v3 : Int32) (sz : Nat)  : Met l yX3_put (.code yX3_put cX3_put 4 none :: gw) ({ frames := 0, cells := 0, slots := 0, locals := 0 }) (va_Pc [.ref h0, .int v1, .int v2, .int v3] (fun U => U.heap.size = sz ∧ va_P (dC, dI) vwCl [(h0, .inr (3, [.ref w0, .ref w1, .ref w2])), (w0, .inl (k0, 17, .inl f0)), (w1, .inl (k1, 17, .inl f1)), (w2, .inl (k2, 17, .inl f2))] U.heap ∧ va_K (dC, dI) vwCl [(k0, .boolean), (k1, .int), (k2, .boolean)] U ∧ va_D (fun _ => True) [(h0, .inr (3, [.ref w0, .ref w1, .ref w2])), (w0, .inl (k0, 17, .inl f0)), (w1, .inl (k1, 17, .inl f1)), (w2, .inl (k2, 17, .inl f2))] ∧ nx U)) (va_Qv (fun (u : Unit) => True) (fun _ _ => True) (va_A [(h0, .inr (3, [.ref w0, .ref w1, .ref w2])), (w0, .inl (k0, 17, .inl f0)), (w1, .inl (k1, 17, .inl f1)), (w2, .inl (k2, 17, .inl f2))] sz)) 0 0 (va_A [(h0, .inr (3, [.ref w0, .ref w1, .ref w2])), (w0, .inl (k0, 17, .inl f0)), (w1, .inl (k1, 17, .inl f1)), (w2, .inl (k2, 17, .inl f2))] sz) := by
  refine Met.ofW (cc := cX3_put) (maxL := 4) (ret := none) (by decide) rfl ?_
  intro p e s m args below meth c s₁ B hml hv
  obtain ⟨rfl, hsz, hP, hK, hD0, hN⟩ := hv
  have hx := B.exec
  have hb := B.bytes
  have hr := B.returns
  have hts := atoms_spec (ws := .code yX3_put cX3_put 4 none :: gw) B.pre
  have hg : ∀ w ∈ gw, w.before _ s = true := fun w h => hts w (List.mem_cons_of_mem _ h)
  have hown : s.vm.findClass RX3 = some m.cls := findClass_of_methodNamed B.named
  have hlocks := B.notSynchronized
  subst hsz
  have hD := hD0.self (sz := s.heap.size)
  generalize hAe : va_A [(h0, .inr (3, [.ref w0, .ref w1, .ref w2])), (w0, .inl (k0, 17, .inl f0)), (w1, .inl (k1, 17, .inl f1)), (w2, .inl (k2, 17, .inl f2))] s.heap.size = A at hD ⊢
  have hA : ∀ q : Nat, s.heap.size ≤ q → A q := fun q h => by rw [← hAe]; exact Or.inr h
  have hS : va_S A s.heap s.heap [] := va_S.rf
  have hP : va_P (dC, dI) vwCl [(h0, .inr (3, [.ref w0, .ref w1, .ref w2])), (w0, .inl (k0, 17, .inl f0)), (w1, .inl (k1, 17, .inl f1)), (w2, .inl (k2, 17, .inl f2))] s.heap := hP
  have hl := lv_entry ([.ref h0, .int v1, .int v2, .int v3]) (n := 4) (Nat.le_of_ble_eq_true rfl)
  rw [lg_entry_eq]
  generalize (lg_sl ([.ref h0, .int v1, .int v2, .int v3]) ++ List.replicate (4 - (lg_sl ([.ref h0, .int v1, .int v2, .int v3])).length) Slot.unset).toArray = ls at hl ⊢
  have hl : lv_has ls 4 [(0, .ref h0), (1, .int v1), (2, .int v2), (3, .int v3)] := hl
  refine lv_iload_n hx hb dX3_put_0 rfl (lv_at hl 1 rfl) ?_
  refine lv_if_lt (tgt := 31) hx hb dX3_put_1 (by decide) (fun c_1 => ?_) (fun c_1 => ?_)
  · simp only [i_lt, i_le, i_eq, ti_0] at c_1
    exact W.vret hx hb hr (fun t ht hW => ⟨⟨(), rfl, trivial, trivial⟩, hS.F ht⟩) hS.2.2 dX3_put_31
  · simp only [i_lt, i_le, i_eq, ti_0] at c_1
    refine lv_iload_n hx hb dX3_put_4 rfl (lv_at hl 1 rfl) ?_
    refine lv_bipush (v := 17) hx hb dX3_put_5 (by decide) ?_
    refine lv_icmp_ge (tgt := 31) hx hb dX3_put_7 (by decide) (fun c_2 => ?_) (fun c_2 => ?_)
    · simp only [i_lt, i_le, i_eq, ti_17] at c_2
      exact W.vret hx hb hr (fun t ht hW => ⟨⟨(), rfl, trivial, trivial⟩, hS.F ht⟩) hS.2.2 dX3_put_31
    · simp only [i_lt, i_le, i_eq, ti_17] at c_2
      refine lv_aload_n hx hb dX3_put_10 rfl (lv_at hl 0 rfl) ?_
      refine va_get (D := (dC, dI)) (ci := 3) (v := .ref w0) (C := RX3) (T := TX3) (N := 3) hx hb hg gb_3 hown hK hP 0 rfl rfl 0 (by decide) (hg _ gm_fieldLink_RX3_11_ErrandGuild_Handlers_there_AZ_) (fun _ h9 => h9) rfl dX3_put_11 ?_
      refine lv_iload_n hx hb dX3_put_14 rfl (lv_at hl 1 rfl) ?_
      refine lv_iconst (v := 1) hx hb dX3_put_15 (by decide) ?_
      refine va_zast hx hb hK hP hD hS 1 0 rfl rfl (vp_in_iff.mpr ⟨by omega, by omega⟩) dX3_put_16 (fun H locs hP hD hS => ?_)
      have hP : va_P (dC, dI) vwCl [(h0, .inr (3, [.ref w0, .ref w1, .ref w2])), (w0, .inl (k0, 17, .inl (upd f0 (Int32.toNatClampNeg v1) (vp_nar .boolean 1)))), (w1, .inl (k1, 17, .inl f1)), (w2, .inl (k2, 17, .inl f2))] H := hP
      have hD : va_D A [(h0, .inr (3, [.ref w0, .ref w1, .ref w2])), (w0, .inl (k0, 17, .inl (upd f0 (Int32.toNatClampNeg v1) (vp_nar .boolean 1)))), (w1, .inl (k1, 17, .inl f1)), (w2, .inl (k2, 17, .inl f2))] := hD
      refine lv_aload_n hx hb dX3_put_17 rfl (lv_at hl 0 rfl) ?_
      refine va_get (D := (dC, dI)) (ci := 3) (v := .ref w1) (C := RX3) (T := TX3) (N := 3) hx hb hg gb_3 hown hK hP 0 rfl rfl 1 (by decide) (hg _ gm_fieldLink_RX3_15_ErrandGuild_Handlers_effects_AI_) (fun _ h9 => h9) rfl dX3_put_18 ?_
      refine lv_iload_n hx hb dX3_put_21 rfl (lv_at hl 1 rfl) ?_
      refine lv_iload_n hx hb dX3_put_22 rfl (lv_at hl 2 rfl) ?_
      refine va_iast hx hb hK hP hD hS 2 1 rfl rfl (vp_in_iff.mpr ⟨by omega, by omega⟩) dX3_put_23 (fun H locs hP hD hS => ?_)
      have hP : va_P (dC, dI) vwCl [(h0, .inr (3, [.ref w0, .ref w1, .ref w2])), (w0, .inl (k0, 17, .inl (upd f0 (Int32.toNatClampNeg v1) (vp_nar .boolean 1)))), (w1, .inl (k1, 17, .inl (upd f1 (Int32.toNatClampNeg v1) v2))), (w2, .inl (k2, 17, .inl f2))] H := hP
      have hD : va_D A [(h0, .inr (3, [.ref w0, .ref w1, .ref w2])), (w0, .inl (k0, 17, .inl (upd f0 (Int32.toNatClampNeg v1) (vp_nar .boolean 1)))), (w1, .inl (k1, 17, .inl (upd f1 (Int32.toNatClampNeg v1) v2))), (w2, .inl (k2, 17, .inl f2))] := hD
      refine lv_aload_n hx hb dX3_put_24 rfl (lv_at hl 0 rfl) ?_
      refine va_get (D := (dC, dI)) (ci := 3) (v := .ref w2) (C := RX3) (T := TX3) (N := 3) hx hb hg gb_3 hown hK hP 0 rfl rfl 2 (by decide) (hg _ gm_fieldLink_RX3_19_ErrandGuild_Handlers_throwing_AZ_) (fun _ h9 => h9) rfl dX3_put_25 ?_
      refine lv_iload_n hx hb dX3_put_28 rfl (lv_at hl 1 rfl) ?_
      refine lv_iload_n hx hb dX3_put_29 rfl (lv_at hl 3 rfl) ?_
      refine va_zast hx hb hK hP hD hS 3 2 rfl rfl (vp_in_iff.mpr ⟨by omega, by omega⟩) dX3_put_30 (fun H locs hP hD hS => ?_)
      have hP : va_P (dC, dI) vwCl [(h0, .inr (3, [.ref w0, .ref w1, .ref w2])), (w0, .inl (k0, 17, .inl (upd f0 (Int32.toNatClampNeg v1) (vp_nar .boolean 1)))), (w1, .inl (k1, 17, .inl (upd f1 (Int32.toNatClampNeg v1) v2))), (w2, .inl (k2, 17, .inl (upd f2 (Int32.toNatClampNeg v1) (vp_nar .boolean v3))))] H := hP
      have hD : va_D A [(h0, .inr (3, [.ref w0, .ref w1, .ref w2])), (w0, .inl (k0, 17, .inl (upd f0 (Int32.toNatClampNeg v1) (vp_nar .boolean 1)))), (w1, .inl (k1, 17, .inl (upd f1 (Int32.toNatClampNeg v1) v2))), (w2, .inl (k2, 17, .inl (upd f2 (Int32.toNatClampNeg v1) (vp_nar .boolean v3))))] := hD
      exact W.vret hx hb hr (fun t ht hW => ⟨⟨(), rfl, trivial, trivial⟩, hS.F ht⟩) hS.2.2 dX3_put_31

set_option maxHeartbeats 4000000 in
set_option maxRecDepth 100000 in
theorem c_X4_begin (l : Launch) (dC : Nat → ClassId) (dI : Nat → Nat → Nat) (h0 : Nat) (sz : Nat)  : Met l yX4_begin (.code yX4_begin cX4_begin 2 none :: gw) ({ frames := 0, cells := 0, slots := 0, locals := 0 }) (va_Pc [.ref h0, .null] (fun U => U.heap.size = sz ∧ va_P (dC, dI) vwCl [(h0, .inr (4, [.null, .null, .int 0, .int 0, .int 0, .null, .null, .null, .int 0]))] U.heap ∧ va_K (dC, dI) vwCl [] U ∧ va_D (fun _ => True) [(h0, .inr (4, [.null, .null, .int 0, .int 0, .int 0, .null, .null, .null, .int 0]))] ∧ nx U)) (va_Qv (fun (u : Unit) => True) (fun _ _ => True) (va_A [(h0, .inr (4, [.null, .null, .int 0, .int 0, .int 0, .null, .null, .null, .int 0]))] sz)) 0 0 (va_A [(h0, .inr (4, [.null, .null, .int 0, .int 0, .int 0, .null, .null, .null, .int 0]))] sz) := by
  refine Met.ofW (cc := cX4_begin) (maxL := 2) (ret := none) (by decide) rfl ?_
  intro p e s m args below meth c s₁ B hml hv
  obtain ⟨rfl, hsz, hP, hK, hD0, hN⟩ := hv
  have hx := B.exec
  have hb := B.bytes
  have hr := B.returns
  have hts := atoms_spec (ws := .code yX4_begin cX4_begin 2 none :: gw) B.pre
  have hg : ∀ w ∈ gw, w.before _ s = true := fun w h => hts w (List.mem_cons_of_mem _ h)
  have hown : s.vm.findClass RX4 = some m.cls := findClass_of_methodNamed B.named
  have hlocks := B.notSynchronized
  subst hsz
  have hD := hD0.self (sz := s.heap.size)
  generalize hAe : va_A [(h0, .inr (4, [.null, .null, .int 0, .int 0, .int 0, .null, .null, .null, .int 0]))] s.heap.size = A at hD ⊢
  have hA : ∀ q : Nat, s.heap.size ≤ q → A q := fun q h => by rw [← hAe]; exact Or.inr h
  have hS : va_S A s.heap s.heap [] := va_S.rf
  have hP : va_P (dC, dI) vwCl [(h0, .inr (4, [.null, .null, .int 0, .int 0, .int 0, .null, .null, .null, .int 0]))] s.heap := hP
  have hl := lv_entry ([.ref h0, .null]) (n := 2) (Nat.le_of_ble_eq_true rfl)
  rw [lg_entry_eq]
  generalize (lg_sl ([.ref h0, .null]) ++ List.replicate (2 - (lg_sl ([.ref h0, .null])).length) Slot.unset).toArray = ls at hl ⊢
  have hl : lv_has ls 2 [(0, .ref h0), (1, .null)] := hl
  refine lv_aload_n hx hb dX4_begin_0 rfl (lv_at hl 0 rfl) ?_
  refine lv_aload_nN hx hb dX4_begin_1 rfl (lv_at hl 1 rfl) ?_
  refine va_put (D := (dC, dI)) (ci := 4) (v := .null) (ty := .object "ErrandGuild$Run") (C := RX4) (T := TX4) (N := 9) hx hb hg gb_4 tyX4 tyX4_ok nmX4 hown hK hP hD hS 0 rfl rfl 0 (by decide) (hg _ gm_fieldLink_RX4_9_ErrandGuild_Kin_giver_LErrandGuild_Run_) (fun _ h9 => h9) rfl (by decide +kernel) rfl rfl (Nat.le_of_ble_eq_true rfl) dX4_begin_2 (fun H locs hP hD hS => ?_)
  have hP : va_P (dC, dI) vwCl [(h0, .inr (4, [.null, .null, .int 0, .int 0, .int 0, .null, .null, .null, .int 0]))] H := hP
  have hD : va_D A [(h0, .inr (4, [.null, .null, .int 0, .int 0, .int 0, .null, .null, .null, .int 0]))] := hD
  refine lv_aload_n hx hb dX4_begin_5 rfl (lv_at hl 0 rfl) ?_
  refine lv_aload_nN hx hb dX4_begin_6 rfl (lv_at hl 1 rfl) ?_
  refine lv_ifnonnullN hx hb dX4_begin_7 ?_
  refine lv_null hx hb dX4_begin_10 ?_
  refine lv_goto (tgt := 18) hx hb dX4_begin_11 (by decide) ?_
  refine va_put (D := (dC, dI)) (ci := 4) (v := .null) (ty := .object "ErrandGuild$Run") (C := RX4) (T := TX4) (N := 9) hx hb hg gb_4 tyX4 tyX4_ok nmX4 hown hK hP hD hS 0 rfl rfl 1 (by decide) (hg _ gm_fieldLink_RX4_21_ErrandGuild_Kin_root_LErrandGuild_Run_) (fun _ h9 => h9) rfl (by decide +kernel) rfl rfl (Nat.le_of_ble_eq_true rfl) dX4_begin_18 (fun H locs hP hD hS => ?_)
  have hP : va_P (dC, dI) vwCl [(h0, .inr (4, [.null, .null, .int 0, .int 0, .int 0, .null, .null, .null, .int 0]))] H := hP
  have hD : va_D A [(h0, .inr (4, [.null, .null, .int 0, .int 0, .int 0, .null, .null, .null, .int 0]))] := hD
  refine lv_aload_n hx hb dX4_begin_21 rfl (lv_at hl 0 rfl) ?_
  refine lv_aload_nN hx hb dX4_begin_22 rfl (lv_at hl 1 rfl) ?_
  refine lv_ifnonnullN hx hb dX4_begin_23 ?_
  refine lv_iconst (v := 0) hx hb dX4_begin_26 (by decide) ?_
  refine lv_goto (tgt := 39) hx hb dX4_begin_27 (by decide) ?_
  refine va_put (D := (dC, dI)) (ci := 4) (v := .int 0) (ty := .int) (C := RX4) (T := TX4) (N := 9) hx hb hg gb_4 tyX4 tyX4_ok nmX4 hown hK hP hD hS 0 rfl rfl 2 (by decide) (hg _ gm_fieldLink_RX4_27_ErrandGuild_Kin_depth_I_) (fun _ h9 => h9) rfl (by decide +kernel) rfl rfl (Nat.le_of_ble_eq_true rfl) dX4_begin_39 (fun H locs hP hD hS => ?_)
  have hP : va_P (dC, dI) vwCl [(h0, .inr (4, [.null, .null, .int 0, .int 0, .int 0, .null, .null, .null, .int 0]))] H := hP
  have hD : va_D A [(h0, .inr (4, [.null, .null, .int 0, .int 0, .int 0, .null, .null, .null, .int 0]))] := hD
  refine lv_aload_n hx hb dX4_begin_42 rfl (lv_at hl 0 rfl) ?_
  refine lv_aload_nN hx hb dX4_begin_43 rfl (lv_at hl 1 rfl) ?_
  refine lv_ifnonnullN hx hb dX4_begin_44 ?_
  refine lv_iconst (v := 0) hx hb dX4_begin_47 (by decide) ?_
  refine lv_goto (tgt := 55) hx hb dX4_begin_48 (by decide) ?_
  refine va_put (D := (dC, dI)) (ci := 4) (v := .int 0) (ty := .int) (C := RX4) (T := TX4) (N := 9) hx hb hg gb_4 tyX4 tyX4_ok nmX4 hown hK hP hD hS 0 rfl rfl 3 (by decide) (hg _ gm_fieldLink_RX4_34_ErrandGuild_Kin_handedAt_I_) (fun _ h9 => h9) rfl (by decide +kernel) rfl rfl (Nat.le_of_ble_eq_true rfl) dX4_begin_55 (fun H locs hP hD hS => ?_)
  have hP : va_P (dC, dI) vwCl [(h0, .inr (4, [.null, .null, .int 0, .int 0, .int 0, .null, .null, .null, .int 0]))] H := hP
  have hD : va_D A [(h0, .inr (4, [.null, .null, .int 0, .int 0, .int 0, .null, .null, .null, .int 0]))] := hD
  refine lv_aload_n hx hb dX4_begin_58 rfl (lv_at hl 0 rfl) ?_
  refine lv_iconst (v := 0) hx hb dX4_begin_59 (by decide) ?_
  refine va_put (D := (dC, dI)) (ci := 4) (v := .int 0) (ty := .int) (C := RX4) (T := TX4) (N := 9) hx hb hg gb_4 tyX4 tyX4_ok nmX4 hown hK hP hD hS 0 rfl rfl 4 (by decide) (hg _ gm_fieldLink_RX4_37_ErrandGuild_Kin_claim_I_) (fun _ h9 => h9) rfl (by decide +kernel) rfl rfl (Nat.le_of_ble_eq_true rfl) dX4_begin_60 (fun H locs hP hD hS => ?_)
  have hP : va_P (dC, dI) vwCl [(h0, .inr (4, [.null, .null, .int 0, .int 0, .int 0, .null, .null, .null, .int 0]))] H := hP
  have hD : va_D A [(h0, .inr (4, [.null, .null, .int 0, .int 0, .int 0, .null, .null, .null, .int 0]))] := hD
  refine lv_aload_n hx hb dX4_begin_63 rfl (lv_at hl 0 rfl) ?_
  refine lv_null hx hb dX4_begin_64 ?_
  refine va_put (D := (dC, dI)) (ci := 4) (v := .null) (ty := .object "ErrandGuild$Run") (C := RX4) (T := TX4) (N := 9) hx hb hg gb_4 tyX4 tyX4_ok nmX4 hown hK hP hD hS 0 rfl rfl 5 (by decide) (hg _ gm_fieldLink_RX4_40_ErrandGuild_Kin_firstChild_LErrandGuild_Run_) (fun _ h9 => h9) rfl (by decide +kernel) rfl rfl (Nat.le_of_ble_eq_true rfl) dX4_begin_65 (fun H locs hP hD hS => ?_)
  have hP : va_P (dC, dI) vwCl [(h0, .inr (4, [.null, .null, .int 0, .int 0, .int 0, .null, .null, .null, .int 0]))] H := hP
  have hD : va_D A [(h0, .inr (4, [.null, .null, .int 0, .int 0, .int 0, .null, .null, .null, .int 0]))] := hD
  refine lv_aload_n hx hb dX4_begin_68 rfl (lv_at hl 0 rfl) ?_
  refine lv_null hx hb dX4_begin_69 ?_
  refine va_put (D := (dC, dI)) (ci := 4) (v := .null) (ty := .object "ErrandGuild$Run") (C := RX4) (T := TX4) (N := 9) hx hb hg gb_4 tyX4 tyX4_ok nmX4 hown hK hP hD hS 0 rfl rfl 6 (by decide) (hg _ gm_fieldLink_RX4_43_ErrandGuild_Kin_lastChild_LErrandGuild_Run_) (fun _ h9 => h9) rfl (by decide +kernel) rfl rfl (Nat.le_of_ble_eq_true rfl) dX4_begin_70 (fun H locs hP hD hS => ?_)
  have hP : va_P (dC, dI) vwCl [(h0, .inr (4, [.null, .null, .int 0, .int 0, .int 0, .null, .null, .null, .int 0]))] H := hP
  have hD : va_D A [(h0, .inr (4, [.null, .null, .int 0, .int 0, .int 0, .null, .null, .null, .int 0]))] := hD
  refine lv_aload_n hx hb dX4_begin_73 rfl (lv_at hl 0 rfl) ?_
  refine lv_null hx hb dX4_begin_74 ?_
  refine va_put (D := (dC, dI)) (ci := 4) (v := .null) (ty := .object "ErrandGuild$Run") (C := RX4) (T := TX4) (N := 9) hx hb hg gb_4 tyX4 tyX4_ok nmX4 hown hK hP hD hS 0 rfl rfl 7 (by decide) (hg _ gm_fieldLink_RX4_46_ErrandGuild_Kin_nextSibling_LErrandGuild_Run_) (fun _ h9 => h9) rfl (by decide +kernel) rfl rfl (Nat.le_of_ble_eq_true rfl) dX4_begin_75 (fun H locs hP hD hS => ?_)
  have hP : va_P (dC, dI) vwCl [(h0, .inr (4, [.null, .null, .int 0, .int 0, .int 0, .null, .null, .null, .int 0]))] H := hP
  have hD : va_D A [(h0, .inr (4, [.null, .null, .int 0, .int 0, .int 0, .null, .null, .null, .int 0]))] := hD
  refine lv_aload_n hx hb dX4_begin_78 rfl (lv_at hl 0 rfl) ?_
  refine lv_iconst (v := 0) hx hb dX4_begin_79 (by decide) ?_
  refine va_put (D := (dC, dI)) (ci := 4) (v := .int 0) (ty := .int) (C := RX4) (T := TX4) (N := 9) hx hb hg gb_4 tyX4 tyX4_ok nmX4 hown hK hP hD hS 0 rfl rfl 8 (by decide) (hg _ gm_fieldLink_RX4_49_ErrandGuild_Kin_children_I_) (fun _ h9 => h9) rfl (by decide +kernel) rfl rfl (Nat.le_of_ble_eq_true rfl) dX4_begin_80 (fun H locs hP hD hS => ?_)
  have hP : va_P (dC, dI) vwCl [(h0, .inr (4, [.null, .null, .int 0, .int 0, .int 0, .null, .null, .null, .int 0]))] H := hP
  have hD : va_D A [(h0, .inr (4, [.null, .null, .int 0, .int 0, .int 0, .null, .null, .null, .int 0]))] := hD
  exact W.vret hx hb hr (fun t ht hW => ⟨⟨(), rfl, trivial, trivial⟩, hS.F ht⟩) hS.2.2 dX4_begin_83

set_option maxHeartbeats 4000000 in
set_option maxRecDepth 100000 in
theorem c_X6_clear (l : Launch) (dC : Nat → ClassId) (dI : Nat → Nat → Nat) (h0 : Nat) (w0 : Nat) (w1 : Nat) (w2 : Nat) (k0 : ClassId) (k2 : ClassId) (f0 : Nat → Int32) (f2 : Nat → Int32) (sz : Nat)  : Met l yX6_clear (.code yX6_clear cX6_clear 2 none :: gw) ({ frames := 0, cells := 0, slots := 0, locals := 0 }) (va_Pc [.ref h0] (fun U => U.heap.size = sz ∧ va_P (dC, dI) vwCl [(h0, .inr (6, [.ref w0, .ref w1, .ref w2])), (w0, .inl (k0, 8, .inl f0)), (w2, .inl (k2, 8, .inl f2))] U.heap ∧ va_K (dC, dI) vwCl [(k0, .boolean), (k2, .int)] U ∧ va_D (fun _ => True) [(h0, .inr (6, [.ref w0, .ref w1, .ref w2])), (w0, .inl (k0, 8, .inl f0)), (w2, .inl (k2, 8, .inl f2))] ∧ nx U)) (va_Qv (fun (u : wS) => True) (fun u t => va_P (dC, dI) vwCl [(h0, .inr (6, [.ref w0, .ref w1, .ref w2])), (w2, .inl (k2, 8, .inl (u.2.2.1 0)))] t.heap ∧ va_D (va_A [(h0, .inr (6, [.ref w0, .ref w1, .ref w2])), (w0, .inl (k0, 8, .inl f0)), (w2, .inl (k2, 8, .inl f2))] sz) [(h0, .inr (6, [.ref w0, .ref w1, .ref w2])), (w2, .inl (k2, 8, .inl (u.2.2.1 0)))] ∧ va_K (dC, dI) vwCl [] t) (va_A [(h0, .inr (6, [.ref w0, .ref w1, .ref w2])), (w0, .inl (k0, 8, .inl f0)), (w2, .inl (k2, 8, .inl f2))] sz)) 0 0 (va_A [(h0, .inr (6, [.ref w0, .ref w1, .ref w2])), (w0, .inl (k0, 8, .inl f0)), (w2, .inl (k2, 8, .inl f2))] sz) := by
  refine Met.ofW (cc := cX6_clear) (maxL := 2) (ret := none) (by decide) rfl ?_
  intro p e s m args below meth c s₁ B hml hv
  obtain ⟨rfl, hsz, hP, hK, hD0, hN⟩ := hv
  have hx := B.exec
  have hb := B.bytes
  have hr := B.returns
  have hts := atoms_spec (ws := .code yX6_clear cX6_clear 2 none :: gw) B.pre
  have hg : ∀ w ∈ gw, w.before _ s = true := fun w h => hts w (List.mem_cons_of_mem _ h)
  have hown : s.vm.findClass RX6 = some m.cls := findClass_of_methodNamed B.named
  have hlocks := B.notSynchronized
  subst hsz
  have hD := hD0.self (sz := s.heap.size)
  generalize hAe : va_A [(h0, .inr (6, [.ref w0, .ref w1, .ref w2])), (w0, .inl (k0, 8, .inl f0)), (w2, .inl (k2, 8, .inl f2))] s.heap.size = A at hD ⊢
  have hA : ∀ q : Nat, s.heap.size ≤ q → A q := fun q h => by rw [← hAe]; exact Or.inr h
  have hS : va_S A s.heap s.heap [] := va_S.rf
  have hP : va_P (dC, dI) vwCl [(h0, .inr (6, [.ref w0, .ref w1, .ref w2])), (w0, .inl (k0, 8, .inl f0)), (w2, .inl (k2, 8, .inl f2))] s.heap := hP
  have hl := lv_entry ([.ref h0]) (n := 2) (Nat.le_of_ble_eq_true rfl)
  rw [lg_entry_eq]
  generalize (lg_sl ([.ref h0]) ++ List.replicate (2 - (lg_sl ([.ref h0])).length) Slot.unset).toArray = ls at hl ⊢
  have hl : lv_has ls 2 [(0, .ref h0)] := hl
  refine lv_iconst (v := 0) hx hb dX6_clear_0 (by decide) ?_
  refine lv_istore_n (lv' := [(1, .int 0), (0, .ref h0)]) hx hb dX6_clear_1 rfl hl (by decide) rfl (fun ls hl => ?_)
  refine lv_iload_n hx hb dX6_clear_2 rfl (lv_at hl 0 rfl) ?_
  refine lv_bipush (v := 8) hx hb dX6_clear_3 (by decide) ?_
  refine lv_icmp_ge (tgt := 28) hx hb dX6_clear_5 (by decide) (fun c_1 => absurd c_1 (by decide)) (fun _ => ?_)
  refine lv_aload_n hx hb dX6_clear_8 rfl (lv_at hl 1 rfl) ?_
  refine va_get (D := (dC, dI)) (ci := 6) (v := .ref w0) (C := RX6) (T := TX6) (N := 3) hx hb hg gb_6 hown hK hP 0 rfl rfl 0 (by decide) (hg _ gm_fieldLink_RX6_9_ErrandGuild_Memory_wrote_AZ_) (fun _ h9 => h9) rfl dX6_clear_9 ?_
  refine lv_iload_n hx hb dX6_clear_12 rfl (lv_at hl 0 rfl) ?_
  refine lv_iconst (v := 0) hx hb dX6_clear_13 (by decide) ?_
  refine va_zast hx hb hK hP hD hS 1 0 rfl rfl (by unfold vp_in; decide) dX6_clear_14 (fun H locs hP hD hS => ?_)
  have hP : va_P (dC, dI) vwCl [(h0, .inr (6, [.ref w0, .ref w1, .ref w2])), (w0, .inl (k0, 8, .inl (upd f0 (Int32.toNatClampNeg 0) (vp_nar .boolean 0)))), (w2, .inl (k2, 8, .inl f2))] H := hP
  have hD : va_D A [(h0, .inr (6, [.ref w0, .ref w1, .ref w2])), (w0, .inl (k0, 8, .inl (upd f0 (Int32.toNatClampNeg 0) (vp_nar .boolean 0)))), (w2, .inl (k2, 8, .inl f2))] := hD
  refine lv_aload_n hx hb dX6_clear_15 rfl (lv_at hl 1 rfl) ?_
  refine va_get (D := (dC, dI)) (ci := 6) (v := .ref w2) (C := RX6) (T := TX6) (N := 3) hx hb hg gb_6 hown hK hP 0 rfl rfl 2 (by decide) (hg _ gm_fieldLink_RX6_19_ErrandGuild_Memory_given_AI_) (fun _ h9 => h9) rfl dX6_clear_16 ?_
  refine lv_iload_n hx hb dX6_clear_19 rfl (lv_at hl 0 rfl) ?_
  refine lv_iconst (v := 0) hx hb dX6_clear_20 (by decide) ?_
  refine va_iast hx hb hK hP hD hS 2 1 rfl rfl (by unfold vp_in; decide) dX6_clear_21 (fun H locs hP hD hS => ?_)
  have hP : va_P (dC, dI) vwCl [(h0, .inr (6, [.ref w0, .ref w1, .ref w2])), (w0, .inl (k0, 8, .inl (upd f0 (Int32.toNatClampNeg 0) (vp_nar .boolean 0)))), (w2, .inl (k2, 8, .inl (upd f2 (Int32.toNatClampNeg 0) 0)))] H := hP
  have hD : va_D A [(h0, .inr (6, [.ref w0, .ref w1, .ref w2])), (w0, .inl (k0, 8, .inl (upd f0 (Int32.toNatClampNeg 0) (vp_nar .boolean 0)))), (w2, .inl (k2, 8, .inl (upd f2 (Int32.toNatClampNeg 0) 0)))] := hD
  refine lv_iinc (v := 1) (lv' := [(1, .int 1), (0, .ref h0)]) hx hb dX6_clear_22 hl (k := 0) rfl (by decide) (by decide) rfl (fun ls hl => ?_)
  refine lv_goto (tgt := 2) hx hb dX6_clear_25 (by decide) ?_
  refine lv_iload_n hx hb dX6_clear_2 rfl (lv_at hl 0 rfl) ?_
  refine lv_bipush (v := 8) hx hb dX6_clear_3 (by decide) ?_
  refine lv_icmp_ge (tgt := 28) hx hb dX6_clear_5 (by decide) (fun c_2 => absurd c_2 (by decide)) (fun _ => ?_)
  refine lv_aload_n hx hb dX6_clear_8 rfl (lv_at hl 1 rfl) ?_
  refine va_get (D := (dC, dI)) (ci := 6) (v := .ref w0) (C := RX6) (T := TX6) (N := 3) hx hb hg gb_6 hown hK hP 0 rfl rfl 0 (by decide) (hg _ gm_fieldLink_RX6_9_ErrandGuild_Memory_wrote_AZ_) (fun _ h9 => h9) rfl dX6_clear_9 ?_
  refine lv_iload_n hx hb dX6_clear_12 rfl (lv_at hl 0 rfl) ?_
  refine lv_iconst (v := 0) hx hb dX6_clear_13 (by decide) ?_
  refine va_zast hx hb hK hP hD hS 1 0 rfl rfl (by unfold vp_in; decide) dX6_clear_14 (fun H locs hP hD hS => ?_)
  have hP : va_P (dC, dI) vwCl [(h0, .inr (6, [.ref w0, .ref w1, .ref w2])), (w0, .inl (k0, 8, .inl (upd (upd f0 (Int32.toNatClampNeg 0) (vp_nar .boolean 0)) (Int32.toNatClampNeg 1) (vp_nar .boolean 0)))), (w2, .inl (k2, 8, .inl (upd f2 (Int32.toNatClampNeg 0) 0)))] H := hP
  have hD : va_D A [(h0, .inr (6, [.ref w0, .ref w1, .ref w2])), (w0, .inl (k0, 8, .inl (upd (upd f0 (Int32.toNatClampNeg 0) (vp_nar .boolean 0)) (Int32.toNatClampNeg 1) (vp_nar .boolean 0)))), (w2, .inl (k2, 8, .inl (upd f2 (Int32.toNatClampNeg 0) 0)))] := hD
  refine lv_aload_n hx hb dX6_clear_15 rfl (lv_at hl 1 rfl) ?_
  refine va_get (D := (dC, dI)) (ci := 6) (v := .ref w2) (C := RX6) (T := TX6) (N := 3) hx hb hg gb_6 hown hK hP 0 rfl rfl 2 (by decide) (hg _ gm_fieldLink_RX6_19_ErrandGuild_Memory_given_AI_) (fun _ h9 => h9) rfl dX6_clear_16 ?_
  refine lv_iload_n hx hb dX6_clear_19 rfl (lv_at hl 0 rfl) ?_
  refine lv_iconst (v := 0) hx hb dX6_clear_20 (by decide) ?_
  refine va_iast hx hb hK hP hD hS 2 1 rfl rfl (by unfold vp_in; decide) dX6_clear_21 (fun H locs hP hD hS => ?_)
  have hP : va_P (dC, dI) vwCl [(h0, .inr (6, [.ref w0, .ref w1, .ref w2])), (w0, .inl (k0, 8, .inl (upd (upd f0 (Int32.toNatClampNeg 0) (vp_nar .boolean 0)) (Int32.toNatClampNeg 1) (vp_nar .boolean 0)))), (w2, .inl (k2, 8, .inl (upd (upd f2 (Int32.toNatClampNeg 0) 0) (Int32.toNatClampNeg 1) 0)))] H := hP
  have hD : va_D A [(h0, .inr (6, [.ref w0, .ref w1, .ref w2])), (w0, .inl (k0, 8, .inl (upd (upd f0 (Int32.toNatClampNeg 0) (vp_nar .boolean 0)) (Int32.toNatClampNeg 1) (vp_nar .boolean 0)))), (w2, .inl (k2, 8, .inl (upd (upd f2 (Int32.toNatClampNeg 0) 0) (Int32.toNatClampNeg 1) 0)))] := hD
  refine lv_iinc (v := 2) (lv' := [(1, .int 2), (0, .ref h0)]) hx hb dX6_clear_22 hl (k := 0) rfl (by decide) (by decide) rfl (fun ls hl => ?_)
  refine lv_goto (tgt := 2) hx hb dX6_clear_25 (by decide) ?_
  refine lv_iload_n hx hb dX6_clear_2 rfl (lv_at hl 0 rfl) ?_
  refine lv_bipush (v := 8) hx hb dX6_clear_3 (by decide) ?_
  refine lv_icmp_ge (tgt := 28) hx hb dX6_clear_5 (by decide) (fun c_3 => absurd c_3 (by decide)) (fun _ => ?_)
  refine lv_aload_n hx hb dX6_clear_8 rfl (lv_at hl 1 rfl) ?_
  refine va_get (D := (dC, dI)) (ci := 6) (v := .ref w0) (C := RX6) (T := TX6) (N := 3) hx hb hg gb_6 hown hK hP 0 rfl rfl 0 (by decide) (hg _ gm_fieldLink_RX6_9_ErrandGuild_Memory_wrote_AZ_) (fun _ h9 => h9) rfl dX6_clear_9 ?_
  refine lv_iload_n hx hb dX6_clear_12 rfl (lv_at hl 0 rfl) ?_
  refine lv_iconst (v := 0) hx hb dX6_clear_13 (by decide) ?_
  refine va_zast hx hb hK hP hD hS 1 0 rfl rfl (by unfold vp_in; decide) dX6_clear_14 (fun H locs hP hD hS => ?_)
  have hP : va_P (dC, dI) vwCl [(h0, .inr (6, [.ref w0, .ref w1, .ref w2])), (w0, .inl (k0, 8, .inl (upd (upd (upd f0 (Int32.toNatClampNeg 0) (vp_nar .boolean 0)) (Int32.toNatClampNeg 1) (vp_nar .boolean 0)) (Int32.toNatClampNeg 2) (vp_nar .boolean 0)))), (w2, .inl (k2, 8, .inl (upd (upd f2 (Int32.toNatClampNeg 0) 0) (Int32.toNatClampNeg 1) 0)))] H := hP
  have hD : va_D A [(h0, .inr (6, [.ref w0, .ref w1, .ref w2])), (w0, .inl (k0, 8, .inl (upd (upd (upd f0 (Int32.toNatClampNeg 0) (vp_nar .boolean 0)) (Int32.toNatClampNeg 1) (vp_nar .boolean 0)) (Int32.toNatClampNeg 2) (vp_nar .boolean 0)))), (w2, .inl (k2, 8, .inl (upd (upd f2 (Int32.toNatClampNeg 0) 0) (Int32.toNatClampNeg 1) 0)))] := hD
  refine lv_aload_n hx hb dX6_clear_15 rfl (lv_at hl 1 rfl) ?_
  refine va_get (D := (dC, dI)) (ci := 6) (v := .ref w2) (C := RX6) (T := TX6) (N := 3) hx hb hg gb_6 hown hK hP 0 rfl rfl 2 (by decide) (hg _ gm_fieldLink_RX6_19_ErrandGuild_Memory_given_AI_) (fun _ h9 => h9) rfl dX6_clear_16 ?_
  refine lv_iload_n hx hb dX6_clear_19 rfl (lv_at hl 0 rfl) ?_
  refine lv_iconst (v := 0) hx hb dX6_clear_20 (by decide) ?_
  refine va_iast hx hb hK hP hD hS 2 1 rfl rfl (by unfold vp_in; decide) dX6_clear_21 (fun H locs hP hD hS => ?_)
  have hP : va_P (dC, dI) vwCl [(h0, .inr (6, [.ref w0, .ref w1, .ref w2])), (w0, .inl (k0, 8, .inl (upd (upd (upd f0 (Int32.toNatClampNeg 0) (vp_nar .boolean 0)) (Int32.toNatClampNeg 1) (vp_nar .boolean 0)) (Int32.toNatClampNeg 2) (vp_nar .boolean 0)))), (w2, .inl (k2, 8, .inl (upd (upd (upd f2 (Int32.toNatClampNeg 0) 0) (Int32.toNatClampNeg 1) 0) (Int32.toNatClampNeg 2) 0)))] H := hP
  have hD : va_D A [(h0, .inr (6, [.ref w0, .ref w1, .ref w2])), (w0, .inl (k0, 8, .inl (upd (upd (upd f0 (Int32.toNatClampNeg 0) (vp_nar .boolean 0)) (Int32.toNatClampNeg 1) (vp_nar .boolean 0)) (Int32.toNatClampNeg 2) (vp_nar .boolean 0)))), (w2, .inl (k2, 8, .inl (upd (upd (upd f2 (Int32.toNatClampNeg 0) 0) (Int32.toNatClampNeg 1) 0) (Int32.toNatClampNeg 2) 0)))] := hD
  refine lv_iinc (v := 3) (lv' := [(1, .int 3), (0, .ref h0)]) hx hb dX6_clear_22 hl (k := 0) rfl (by decide) (by decide) rfl (fun ls hl => ?_)
  refine lv_goto (tgt := 2) hx hb dX6_clear_25 (by decide) ?_
  refine lv_iload_n hx hb dX6_clear_2 rfl (lv_at hl 0 rfl) ?_
  refine lv_bipush (v := 8) hx hb dX6_clear_3 (by decide) ?_
  refine lv_icmp_ge (tgt := 28) hx hb dX6_clear_5 (by decide) (fun c_4 => absurd c_4 (by decide)) (fun _ => ?_)
  refine lv_aload_n hx hb dX6_clear_8 rfl (lv_at hl 1 rfl) ?_
  refine va_get (D := (dC, dI)) (ci := 6) (v := .ref w0) (C := RX6) (T := TX6) (N := 3) hx hb hg gb_6 hown hK hP 0 rfl rfl 0 (by decide) (hg _ gm_fieldLink_RX6_9_ErrandGuild_Memory_wrote_AZ_) (fun _ h9 => h9) rfl dX6_clear_9 ?_
  refine lv_iload_n hx hb dX6_clear_12 rfl (lv_at hl 0 rfl) ?_
  refine lv_iconst (v := 0) hx hb dX6_clear_13 (by decide) ?_
  refine va_zast hx hb hK hP hD hS 1 0 rfl rfl (by unfold vp_in; decide) dX6_clear_14 (fun H locs hP hD hS => ?_)
  have hP : va_P (dC, dI) vwCl [(h0, .inr (6, [.ref w0, .ref w1, .ref w2])), (w0, .inl (k0, 8, .inl (upd (upd (upd (upd f0 (Int32.toNatClampNeg 0) (vp_nar .boolean 0)) (Int32.toNatClampNeg 1) (vp_nar .boolean 0)) (Int32.toNatClampNeg 2) (vp_nar .boolean 0)) (Int32.toNatClampNeg 3) (vp_nar .boolean 0)))), (w2, .inl (k2, 8, .inl (upd (upd (upd f2 (Int32.toNatClampNeg 0) 0) (Int32.toNatClampNeg 1) 0) (Int32.toNatClampNeg 2) 0)))] H := hP
  have hD : va_D A [(h0, .inr (6, [.ref w0, .ref w1, .ref w2])), (w0, .inl (k0, 8, .inl (upd (upd (upd (upd f0 (Int32.toNatClampNeg 0) (vp_nar .boolean 0)) (Int32.toNatClampNeg 1) (vp_nar .boolean 0)) (Int32.toNatClampNeg 2) (vp_nar .boolean 0)) (Int32.toNatClampNeg 3) (vp_nar .boolean 0)))), (w2, .inl (k2, 8, .inl (upd (upd (upd f2 (Int32.toNatClampNeg 0) 0) (Int32.toNatClampNeg 1) 0) (Int32.toNatClampNeg 2) 0)))] := hD
  refine lv_aload_n hx hb dX6_clear_15 rfl (lv_at hl 1 rfl) ?_
  refine va_get (D := (dC, dI)) (ci := 6) (v := .ref w2) (C := RX6) (T := TX6) (N := 3) hx hb hg gb_6 hown hK hP 0 rfl rfl 2 (by decide) (hg _ gm_fieldLink_RX6_19_ErrandGuild_Memory_given_AI_) (fun _ h9 => h9) rfl dX6_clear_16 ?_
  refine lv_iload_n hx hb dX6_clear_19 rfl (lv_at hl 0 rfl) ?_
  refine lv_iconst (v := 0) hx hb dX6_clear_20 (by decide) ?_
  refine va_iast hx hb hK hP hD hS 2 1 rfl rfl (by unfold vp_in; decide) dX6_clear_21 (fun H locs hP hD hS => ?_)
  have hP : va_P (dC, dI) vwCl [(h0, .inr (6, [.ref w0, .ref w1, .ref w2])), (w0, .inl (k0, 8, .inl (upd (upd (upd (upd f0 (Int32.toNatClampNeg 0) (vp_nar .boolean 0)) (Int32.toNatClampNeg 1) (vp_nar .boolean 0)) (Int32.toNatClampNeg 2) (vp_nar .boolean 0)) (Int32.toNatClampNeg 3) (vp_nar .boolean 0)))), (w2, .inl (k2, 8, .inl (upd (upd (upd (upd f2 (Int32.toNatClampNeg 0) 0) (Int32.toNatClampNeg 1) 0) (Int32.toNatClampNeg 2) 0) (Int32.toNatClampNeg 3) 0)))] H := hP
  have hD : va_D A [(h0, .inr (6, [.ref w0, .ref w1, .ref w2])), (w0, .inl (k0, 8, .inl (upd (upd (upd (upd f0 (Int32.toNatClampNeg 0) (vp_nar .boolean 0)) (Int32.toNatClampNeg 1) (vp_nar .boolean 0)) (Int32.toNatClampNeg 2) (vp_nar .boolean 0)) (Int32.toNatClampNeg 3) (vp_nar .boolean 0)))), (w2, .inl (k2, 8, .inl (upd (upd (upd (upd f2 (Int32.toNatClampNeg 0) 0) (Int32.toNatClampNeg 1) 0) (Int32.toNatClampNeg 2) 0) (Int32.toNatClampNeg 3) 0)))] := hD
  refine lv_iinc (v := 4) (lv' := [(1, .int 4), (0, .ref h0)]) hx hb dX6_clear_22 hl (k := 0) rfl (by decide) (by decide) rfl (fun ls hl => ?_)
  refine lv_goto (tgt := 2) hx hb dX6_clear_25 (by decide) ?_
  refine lv_iload_n hx hb dX6_clear_2 rfl (lv_at hl 0 rfl) ?_
  refine lv_bipush (v := 8) hx hb dX6_clear_3 (by decide) ?_
  refine lv_icmp_ge (tgt := 28) hx hb dX6_clear_5 (by decide) (fun c_5 => absurd c_5 (by decide)) (fun _ => ?_)
  refine lv_aload_n hx hb dX6_clear_8 rfl (lv_at hl 1 rfl) ?_
  refine va_get (D := (dC, dI)) (ci := 6) (v := .ref w0) (C := RX6) (T := TX6) (N := 3) hx hb hg gb_6 hown hK hP 0 rfl rfl 0 (by decide) (hg _ gm_fieldLink_RX6_9_ErrandGuild_Memory_wrote_AZ_) (fun _ h9 => h9) rfl dX6_clear_9 ?_
  refine lv_iload_n hx hb dX6_clear_12 rfl (lv_at hl 0 rfl) ?_
  refine lv_iconst (v := 0) hx hb dX6_clear_13 (by decide) ?_
  refine va_zast hx hb hK hP hD hS 1 0 rfl rfl (by unfold vp_in; decide) dX6_clear_14 (fun H locs hP hD hS => ?_)
  have hP : va_P (dC, dI) vwCl [(h0, .inr (6, [.ref w0, .ref w1, .ref w2])), (w0, .inl (k0, 8, .inl (upd (upd (upd (upd (upd f0 (Int32.toNatClampNeg 0) (vp_nar .boolean 0)) (Int32.toNatClampNeg 1) (vp_nar .boolean 0)) (Int32.toNatClampNeg 2) (vp_nar .boolean 0)) (Int32.toNatClampNeg 3) (vp_nar .boolean 0)) (Int32.toNatClampNeg 4) (vp_nar .boolean 0)))), (w2, .inl (k2, 8, .inl (upd (upd (upd (upd f2 (Int32.toNatClampNeg 0) 0) (Int32.toNatClampNeg 1) 0) (Int32.toNatClampNeg 2) 0) (Int32.toNatClampNeg 3) 0)))] H := hP
  have hD : va_D A [(h0, .inr (6, [.ref w0, .ref w1, .ref w2])), (w0, .inl (k0, 8, .inl (upd (upd (upd (upd (upd f0 (Int32.toNatClampNeg 0) (vp_nar .boolean 0)) (Int32.toNatClampNeg 1) (vp_nar .boolean 0)) (Int32.toNatClampNeg 2) (vp_nar .boolean 0)) (Int32.toNatClampNeg 3) (vp_nar .boolean 0)) (Int32.toNatClampNeg 4) (vp_nar .boolean 0)))), (w2, .inl (k2, 8, .inl (upd (upd (upd (upd f2 (Int32.toNatClampNeg 0) 0) (Int32.toNatClampNeg 1) 0) (Int32.toNatClampNeg 2) 0) (Int32.toNatClampNeg 3) 0)))] := hD
  refine lv_aload_n hx hb dX6_clear_15 rfl (lv_at hl 1 rfl) ?_
  refine va_get (D := (dC, dI)) (ci := 6) (v := .ref w2) (C := RX6) (T := TX6) (N := 3) hx hb hg gb_6 hown hK hP 0 rfl rfl 2 (by decide) (hg _ gm_fieldLink_RX6_19_ErrandGuild_Memory_given_AI_) (fun _ h9 => h9) rfl dX6_clear_16 ?_
  refine lv_iload_n hx hb dX6_clear_19 rfl (lv_at hl 0 rfl) ?_
  refine lv_iconst (v := 0) hx hb dX6_clear_20 (by decide) ?_
  refine va_iast hx hb hK hP hD hS 2 1 rfl rfl (by unfold vp_in; decide) dX6_clear_21 (fun H locs hP hD hS => ?_)
  have hP : va_P (dC, dI) vwCl [(h0, .inr (6, [.ref w0, .ref w1, .ref w2])), (w0, .inl (k0, 8, .inl (upd (upd (upd (upd (upd f0 (Int32.toNatClampNeg 0) (vp_nar .boolean 0)) (Int32.toNatClampNeg 1) (vp_nar .boolean 0)) (Int32.toNatClampNeg 2) (vp_nar .boolean 0)) (Int32.toNatClampNeg 3) (vp_nar .boolean 0)) (Int32.toNatClampNeg 4) (vp_nar .boolean 0)))), (w2, .inl (k2, 8, .inl (upd (upd (upd (upd (upd f2 (Int32.toNatClampNeg 0) 0) (Int32.toNatClampNeg 1) 0) (Int32.toNatClampNeg 2) 0) (Int32.toNatClampNeg 3) 0) (Int32.toNatClampNeg 4) 0)))] H := hP
  have hD : va_D A [(h0, .inr (6, [.ref w0, .ref w1, .ref w2])), (w0, .inl (k0, 8, .inl (upd (upd (upd (upd (upd f0 (Int32.toNatClampNeg 0) (vp_nar .boolean 0)) (Int32.toNatClampNeg 1) (vp_nar .boolean 0)) (Int32.toNatClampNeg 2) (vp_nar .boolean 0)) (Int32.toNatClampNeg 3) (vp_nar .boolean 0)) (Int32.toNatClampNeg 4) (vp_nar .boolean 0)))), (w2, .inl (k2, 8, .inl (upd (upd (upd (upd (upd f2 (Int32.toNatClampNeg 0) 0) (Int32.toNatClampNeg 1) 0) (Int32.toNatClampNeg 2) 0) (Int32.toNatClampNeg 3) 0) (Int32.toNatClampNeg 4) 0)))] := hD
  refine lv_iinc (v := 5) (lv' := [(1, .int 5), (0, .ref h0)]) hx hb dX6_clear_22 hl (k := 0) rfl (by decide) (by decide) rfl (fun ls hl => ?_)
  refine lv_goto (tgt := 2) hx hb dX6_clear_25 (by decide) ?_
  refine lv_iload_n hx hb dX6_clear_2 rfl (lv_at hl 0 rfl) ?_
  refine lv_bipush (v := 8) hx hb dX6_clear_3 (by decide) ?_
  refine lv_icmp_ge (tgt := 28) hx hb dX6_clear_5 (by decide) (fun c_6 => absurd c_6 (by decide)) (fun _ => ?_)
  refine lv_aload_n hx hb dX6_clear_8 rfl (lv_at hl 1 rfl) ?_
  refine va_get (D := (dC, dI)) (ci := 6) (v := .ref w0) (C := RX6) (T := TX6) (N := 3) hx hb hg gb_6 hown hK hP 0 rfl rfl 0 (by decide) (hg _ gm_fieldLink_RX6_9_ErrandGuild_Memory_wrote_AZ_) (fun _ h9 => h9) rfl dX6_clear_9 ?_
  refine lv_iload_n hx hb dX6_clear_12 rfl (lv_at hl 0 rfl) ?_
  refine lv_iconst (v := 0) hx hb dX6_clear_13 (by decide) ?_
  refine va_zast hx hb hK hP hD hS 1 0 rfl rfl (by unfold vp_in; decide) dX6_clear_14 (fun H locs hP hD hS => ?_)
  have hP : va_P (dC, dI) vwCl [(h0, .inr (6, [.ref w0, .ref w1, .ref w2])), (w0, .inl (k0, 8, .inl (upd (upd (upd (upd (upd (upd f0 (Int32.toNatClampNeg 0) (vp_nar .boolean 0)) (Int32.toNatClampNeg 1) (vp_nar .boolean 0)) (Int32.toNatClampNeg 2) (vp_nar .boolean 0)) (Int32.toNatClampNeg 3) (vp_nar .boolean 0)) (Int32.toNatClampNeg 4) (vp_nar .boolean 0)) (Int32.toNatClampNeg 5) (vp_nar .boolean 0)))), (w2, .inl (k2, 8, .inl (upd (upd (upd (upd (upd f2 (Int32.toNatClampNeg 0) 0) (Int32.toNatClampNeg 1) 0) (Int32.toNatClampNeg 2) 0) (Int32.toNatClampNeg 3) 0) (Int32.toNatClampNeg 4) 0)))] H := hP
  have hD : va_D A [(h0, .inr (6, [.ref w0, .ref w1, .ref w2])), (w0, .inl (k0, 8, .inl (upd (upd (upd (upd (upd (upd f0 (Int32.toNatClampNeg 0) (vp_nar .boolean 0)) (Int32.toNatClampNeg 1) (vp_nar .boolean 0)) (Int32.toNatClampNeg 2) (vp_nar .boolean 0)) (Int32.toNatClampNeg 3) (vp_nar .boolean 0)) (Int32.toNatClampNeg 4) (vp_nar .boolean 0)) (Int32.toNatClampNeg 5) (vp_nar .boolean 0)))), (w2, .inl (k2, 8, .inl (upd (upd (upd (upd (upd f2 (Int32.toNatClampNeg 0) 0) (Int32.toNatClampNeg 1) 0) (Int32.toNatClampNeg 2) 0) (Int32.toNatClampNeg 3) 0) (Int32.toNatClampNeg 4) 0)))] := hD
  refine lv_aload_n hx hb dX6_clear_15 rfl (lv_at hl 1 rfl) ?_
  refine va_get (D := (dC, dI)) (ci := 6) (v := .ref w2) (C := RX6) (T := TX6) (N := 3) hx hb hg gb_6 hown hK hP 0 rfl rfl 2 (by decide) (hg _ gm_fieldLink_RX6_19_ErrandGuild_Memory_given_AI_) (fun _ h9 => h9) rfl dX6_clear_16 ?_
  refine lv_iload_n hx hb dX6_clear_19 rfl (lv_at hl 0 rfl) ?_
  refine lv_iconst (v := 0) hx hb dX6_clear_20 (by decide) ?_
  refine va_iast hx hb hK hP hD hS 2 1 rfl rfl (by unfold vp_in; decide) dX6_clear_21 (fun H locs hP hD hS => ?_)
  have hP : va_P (dC, dI) vwCl [(h0, .inr (6, [.ref w0, .ref w1, .ref w2])), (w0, .inl (k0, 8, .inl (upd (upd (upd (upd (upd (upd f0 (Int32.toNatClampNeg 0) (vp_nar .boolean 0)) (Int32.toNatClampNeg 1) (vp_nar .boolean 0)) (Int32.toNatClampNeg 2) (vp_nar .boolean 0)) (Int32.toNatClampNeg 3) (vp_nar .boolean 0)) (Int32.toNatClampNeg 4) (vp_nar .boolean 0)) (Int32.toNatClampNeg 5) (vp_nar .boolean 0)))), (w2, .inl (k2, 8, .inl (upd (upd (upd (upd (upd (upd f2 (Int32.toNatClampNeg 0) 0) (Int32.toNatClampNeg 1) 0) (Int32.toNatClampNeg 2) 0) (Int32.toNatClampNeg 3) 0) (Int32.toNatClampNeg 4) 0) (Int32.toNatClampNeg 5) 0)))] H := hP
  have hD : va_D A [(h0, .inr (6, [.ref w0, .ref w1, .ref w2])), (w0, .inl (k0, 8, .inl (upd (upd (upd (upd (upd (upd f0 (Int32.toNatClampNeg 0) (vp_nar .boolean 0)) (Int32.toNatClampNeg 1) (vp_nar .boolean 0)) (Int32.toNatClampNeg 2) (vp_nar .boolean 0)) (Int32.toNatClampNeg 3) (vp_nar .boolean 0)) (Int32.toNatClampNeg 4) (vp_nar .boolean 0)) (Int32.toNatClampNeg 5) (vp_nar .boolean 0)))), (w2, .inl (k2, 8, .inl (upd (upd (upd (upd (upd (upd f2 (Int32.toNatClampNeg 0) 0) (Int32.toNatClampNeg 1) 0) (Int32.toNatClampNeg 2) 0) (Int32.toNatClampNeg 3) 0) (Int32.toNatClampNeg 4) 0) (Int32.toNatClampNeg 5) 0)))] := hD
  refine lv_iinc (v := 6) (lv' := [(1, .int 6), (0, .ref h0)]) hx hb dX6_clear_22 hl (k := 0) rfl (by decide) (by decide) rfl (fun ls hl => ?_)
  refine lv_goto (tgt := 2) hx hb dX6_clear_25 (by decide) ?_
  refine lv_iload_n hx hb dX6_clear_2 rfl (lv_at hl 0 rfl) ?_
  refine lv_bipush (v := 8) hx hb dX6_clear_3 (by decide) ?_
  refine lv_icmp_ge (tgt := 28) hx hb dX6_clear_5 (by decide) (fun c_7 => absurd c_7 (by decide)) (fun _ => ?_)
  refine lv_aload_n hx hb dX6_clear_8 rfl (lv_at hl 1 rfl) ?_
  refine va_get (D := (dC, dI)) (ci := 6) (v := .ref w0) (C := RX6) (T := TX6) (N := 3) hx hb hg gb_6 hown hK hP 0 rfl rfl 0 (by decide) (hg _ gm_fieldLink_RX6_9_ErrandGuild_Memory_wrote_AZ_) (fun _ h9 => h9) rfl dX6_clear_9 ?_
  refine lv_iload_n hx hb dX6_clear_12 rfl (lv_at hl 0 rfl) ?_
  refine lv_iconst (v := 0) hx hb dX6_clear_13 (by decide) ?_
  refine va_zast hx hb hK hP hD hS 1 0 rfl rfl (by unfold vp_in; decide) dX6_clear_14 (fun H locs hP hD hS => ?_)
  have hP : va_P (dC, dI) vwCl [(h0, .inr (6, [.ref w0, .ref w1, .ref w2])), (w0, .inl (k0, 8, .inl (upd (upd (upd (upd (upd (upd (upd f0 (Int32.toNatClampNeg 0) (vp_nar .boolean 0)) (Int32.toNatClampNeg 1) (vp_nar .boolean 0)) (Int32.toNatClampNeg 2) (vp_nar .boolean 0)) (Int32.toNatClampNeg 3) (vp_nar .boolean 0)) (Int32.toNatClampNeg 4) (vp_nar .boolean 0)) (Int32.toNatClampNeg 5) (vp_nar .boolean 0)) (Int32.toNatClampNeg 6) (vp_nar .boolean 0)))), (w2, .inl (k2, 8, .inl (upd (upd (upd (upd (upd (upd f2 (Int32.toNatClampNeg 0) 0) (Int32.toNatClampNeg 1) 0) (Int32.toNatClampNeg 2) 0) (Int32.toNatClampNeg 3) 0) (Int32.toNatClampNeg 4) 0) (Int32.toNatClampNeg 5) 0)))] H := hP
  have hD : va_D A [(h0, .inr (6, [.ref w0, .ref w1, .ref w2])), (w0, .inl (k0, 8, .inl (upd (upd (upd (upd (upd (upd (upd f0 (Int32.toNatClampNeg 0) (vp_nar .boolean 0)) (Int32.toNatClampNeg 1) (vp_nar .boolean 0)) (Int32.toNatClampNeg 2) (vp_nar .boolean 0)) (Int32.toNatClampNeg 3) (vp_nar .boolean 0)) (Int32.toNatClampNeg 4) (vp_nar .boolean 0)) (Int32.toNatClampNeg 5) (vp_nar .boolean 0)) (Int32.toNatClampNeg 6) (vp_nar .boolean 0)))), (w2, .inl (k2, 8, .inl (upd (upd (upd (upd (upd (upd f2 (Int32.toNatClampNeg 0) 0) (Int32.toNatClampNeg 1) 0) (Int32.toNatClampNeg 2) 0) (Int32.toNatClampNeg 3) 0) (Int32.toNatClampNeg 4) 0) (Int32.toNatClampNeg 5) 0)))] := hD
  refine lv_aload_n hx hb dX6_clear_15 rfl (lv_at hl 1 rfl) ?_
  refine va_get (D := (dC, dI)) (ci := 6) (v := .ref w2) (C := RX6) (T := TX6) (N := 3) hx hb hg gb_6 hown hK hP 0 rfl rfl 2 (by decide) (hg _ gm_fieldLink_RX6_19_ErrandGuild_Memory_given_AI_) (fun _ h9 => h9) rfl dX6_clear_16 ?_
  refine lv_iload_n hx hb dX6_clear_19 rfl (lv_at hl 0 rfl) ?_
  refine lv_iconst (v := 0) hx hb dX6_clear_20 (by decide) ?_
  refine va_iast hx hb hK hP hD hS 2 1 rfl rfl (by unfold vp_in; decide) dX6_clear_21 (fun H locs hP hD hS => ?_)
  have hP : va_P (dC, dI) vwCl [(h0, .inr (6, [.ref w0, .ref w1, .ref w2])), (w0, .inl (k0, 8, .inl (upd (upd (upd (upd (upd (upd (upd f0 (Int32.toNatClampNeg 0) (vp_nar .boolean 0)) (Int32.toNatClampNeg 1) (vp_nar .boolean 0)) (Int32.toNatClampNeg 2) (vp_nar .boolean 0)) (Int32.toNatClampNeg 3) (vp_nar .boolean 0)) (Int32.toNatClampNeg 4) (vp_nar .boolean 0)) (Int32.toNatClampNeg 5) (vp_nar .boolean 0)) (Int32.toNatClampNeg 6) (vp_nar .boolean 0)))), (w2, .inl (k2, 8, .inl (upd (upd (upd (upd (upd (upd (upd f2 (Int32.toNatClampNeg 0) 0) (Int32.toNatClampNeg 1) 0) (Int32.toNatClampNeg 2) 0) (Int32.toNatClampNeg 3) 0) (Int32.toNatClampNeg 4) 0) (Int32.toNatClampNeg 5) 0) (Int32.toNatClampNeg 6) 0)))] H := hP
  have hD : va_D A [(h0, .inr (6, [.ref w0, .ref w1, .ref w2])), (w0, .inl (k0, 8, .inl (upd (upd (upd (upd (upd (upd (upd f0 (Int32.toNatClampNeg 0) (vp_nar .boolean 0)) (Int32.toNatClampNeg 1) (vp_nar .boolean 0)) (Int32.toNatClampNeg 2) (vp_nar .boolean 0)) (Int32.toNatClampNeg 3) (vp_nar .boolean 0)) (Int32.toNatClampNeg 4) (vp_nar .boolean 0)) (Int32.toNatClampNeg 5) (vp_nar .boolean 0)) (Int32.toNatClampNeg 6) (vp_nar .boolean 0)))), (w2, .inl (k2, 8, .inl (upd (upd (upd (upd (upd (upd (upd f2 (Int32.toNatClampNeg 0) 0) (Int32.toNatClampNeg 1) 0) (Int32.toNatClampNeg 2) 0) (Int32.toNatClampNeg 3) 0) (Int32.toNatClampNeg 4) 0) (Int32.toNatClampNeg 5) 0) (Int32.toNatClampNeg 6) 0)))] := hD
  refine lv_iinc (v := 7) (lv' := [(1, .int 7), (0, .ref h0)]) hx hb dX6_clear_22 hl (k := 0) rfl (by decide) (by decide) rfl (fun ls hl => ?_)
  refine lv_goto (tgt := 2) hx hb dX6_clear_25 (by decide) ?_
  refine lv_iload_n hx hb dX6_clear_2 rfl (lv_at hl 0 rfl) ?_
  refine lv_bipush (v := 8) hx hb dX6_clear_3 (by decide) ?_
  refine lv_icmp_ge (tgt := 28) hx hb dX6_clear_5 (by decide) (fun c_8 => absurd c_8 (by decide)) (fun _ => ?_)
  refine lv_aload_n hx hb dX6_clear_8 rfl (lv_at hl 1 rfl) ?_
  refine va_get (D := (dC, dI)) (ci := 6) (v := .ref w0) (C := RX6) (T := TX6) (N := 3) hx hb hg gb_6 hown hK hP 0 rfl rfl 0 (by decide) (hg _ gm_fieldLink_RX6_9_ErrandGuild_Memory_wrote_AZ_) (fun _ h9 => h9) rfl dX6_clear_9 ?_
  refine lv_iload_n hx hb dX6_clear_12 rfl (lv_at hl 0 rfl) ?_
  refine lv_iconst (v := 0) hx hb dX6_clear_13 (by decide) ?_
  refine va_zast hx hb hK hP hD hS 1 0 rfl rfl (by unfold vp_in; decide) dX6_clear_14 (fun H locs hP hD hS => ?_)
  have hP : va_P (dC, dI) vwCl [(h0, .inr (6, [.ref w0, .ref w1, .ref w2])), (w0, .inl (k0, 8, .inl (upd (upd (upd (upd (upd (upd (upd (upd f0 (Int32.toNatClampNeg 0) (vp_nar .boolean 0)) (Int32.toNatClampNeg 1) (vp_nar .boolean 0)) (Int32.toNatClampNeg 2) (vp_nar .boolean 0)) (Int32.toNatClampNeg 3) (vp_nar .boolean 0)) (Int32.toNatClampNeg 4) (vp_nar .boolean 0)) (Int32.toNatClampNeg 5) (vp_nar .boolean 0)) (Int32.toNatClampNeg 6) (vp_nar .boolean 0)) (Int32.toNatClampNeg 7) (vp_nar .boolean 0)))), (w2, .inl (k2, 8, .inl (upd (upd (upd (upd (upd (upd (upd f2 (Int32.toNatClampNeg 0) 0) (Int32.toNatClampNeg 1) 0) (Int32.toNatClampNeg 2) 0) (Int32.toNatClampNeg 3) 0) (Int32.toNatClampNeg 4) 0) (Int32.toNatClampNeg 5) 0) (Int32.toNatClampNeg 6) 0)))] H := hP
  have hD : va_D A [(h0, .inr (6, [.ref w0, .ref w1, .ref w2])), (w0, .inl (k0, 8, .inl (upd (upd (upd (upd (upd (upd (upd (upd f0 (Int32.toNatClampNeg 0) (vp_nar .boolean 0)) (Int32.toNatClampNeg 1) (vp_nar .boolean 0)) (Int32.toNatClampNeg 2) (vp_nar .boolean 0)) (Int32.toNatClampNeg 3) (vp_nar .boolean 0)) (Int32.toNatClampNeg 4) (vp_nar .boolean 0)) (Int32.toNatClampNeg 5) (vp_nar .boolean 0)) (Int32.toNatClampNeg 6) (vp_nar .boolean 0)) (Int32.toNatClampNeg 7) (vp_nar .boolean 0)))), (w2, .inl (k2, 8, .inl (upd (upd (upd (upd (upd (upd (upd f2 (Int32.toNatClampNeg 0) 0) (Int32.toNatClampNeg 1) 0) (Int32.toNatClampNeg 2) 0) (Int32.toNatClampNeg 3) 0) (Int32.toNatClampNeg 4) 0) (Int32.toNatClampNeg 5) 0) (Int32.toNatClampNeg 6) 0)))] := hD
  refine lv_aload_n hx hb dX6_clear_15 rfl (lv_at hl 1 rfl) ?_
  refine va_get (D := (dC, dI)) (ci := 6) (v := .ref w2) (C := RX6) (T := TX6) (N := 3) hx hb hg gb_6 hown hK hP 0 rfl rfl 2 (by decide) (hg _ gm_fieldLink_RX6_19_ErrandGuild_Memory_given_AI_) (fun _ h9 => h9) rfl dX6_clear_16 ?_
  refine lv_iload_n hx hb dX6_clear_19 rfl (lv_at hl 0 rfl) ?_
  refine lv_iconst (v := 0) hx hb dX6_clear_20 (by decide) ?_
  refine va_iast hx hb hK hP hD hS 2 1 rfl rfl (by unfold vp_in; decide) dX6_clear_21 (fun H locs hP hD hS => ?_)
  have hP : va_P (dC, dI) vwCl [(h0, .inr (6, [.ref w0, .ref w1, .ref w2])), (w0, .inl (k0, 8, .inl (upd (upd (upd (upd (upd (upd (upd (upd f0 (Int32.toNatClampNeg 0) (vp_nar .boolean 0)) (Int32.toNatClampNeg 1) (vp_nar .boolean 0)) (Int32.toNatClampNeg 2) (vp_nar .boolean 0)) (Int32.toNatClampNeg 3) (vp_nar .boolean 0)) (Int32.toNatClampNeg 4) (vp_nar .boolean 0)) (Int32.toNatClampNeg 5) (vp_nar .boolean 0)) (Int32.toNatClampNeg 6) (vp_nar .boolean 0)) (Int32.toNatClampNeg 7) (vp_nar .boolean 0)))), (w2, .inl (k2, 8, .inl (upd (upd (upd (upd (upd (upd (upd (upd f2 (Int32.toNatClampNeg 0) 0) (Int32.toNatClampNeg 1) 0) (Int32.toNatClampNeg 2) 0) (Int32.toNatClampNeg 3) 0) (Int32.toNatClampNeg 4) 0) (Int32.toNatClampNeg 5) 0) (Int32.toNatClampNeg 6) 0) (Int32.toNatClampNeg 7) 0)))] H := hP
  have hD : va_D A [(h0, .inr (6, [.ref w0, .ref w1, .ref w2])), (w0, .inl (k0, 8, .inl (upd (upd (upd (upd (upd (upd (upd (upd f0 (Int32.toNatClampNeg 0) (vp_nar .boolean 0)) (Int32.toNatClampNeg 1) (vp_nar .boolean 0)) (Int32.toNatClampNeg 2) (vp_nar .boolean 0)) (Int32.toNatClampNeg 3) (vp_nar .boolean 0)) (Int32.toNatClampNeg 4) (vp_nar .boolean 0)) (Int32.toNatClampNeg 5) (vp_nar .boolean 0)) (Int32.toNatClampNeg 6) (vp_nar .boolean 0)) (Int32.toNatClampNeg 7) (vp_nar .boolean 0)))), (w2, .inl (k2, 8, .inl (upd (upd (upd (upd (upd (upd (upd (upd f2 (Int32.toNatClampNeg 0) 0) (Int32.toNatClampNeg 1) 0) (Int32.toNatClampNeg 2) 0) (Int32.toNatClampNeg 3) 0) (Int32.toNatClampNeg 4) 0) (Int32.toNatClampNeg 5) 0) (Int32.toNatClampNeg 6) 0) (Int32.toNatClampNeg 7) 0)))] := hD
  refine lv_iinc (v := 8) (lv' := [(1, .int 8), (0, .ref h0)]) hx hb dX6_clear_22 hl (k := 0) rfl (by decide) (by decide) rfl (fun ls hl => ?_)
  refine lv_goto (tgt := 2) hx hb dX6_clear_25 (by decide) ?_
  refine lv_iload_n hx hb dX6_clear_2 rfl (lv_at hl 0 rfl) ?_
  refine lv_bipush (v := 8) hx hb dX6_clear_3 (by decide) ?_
  refine lv_icmp_ge (tgt := 28) hx hb dX6_clear_5 (by decide) (fun _ => ?_) (fun c_9 => absurd c_9 (by decide))
  have hP9 := hP.sub (ws' := [(h0, .inr (6, [.ref w0, .ref w1, .ref w2])), (w2, .inl (k2, 8, .inl (upd (upd (upd (upd (upd (upd (upd (upd f2 (Int32.toNatClampNeg 0) 0) (Int32.toNatClampNeg 1) 0) (Int32.toNatClampNeg 2) 0) (Int32.toNatClampNeg 3) 0) (Int32.toNatClampNeg 4) 0) (Int32.toNatClampNeg 5) 0) (Int32.toNatClampNeg 6) 0) (Int32.toNatClampNeg 7) 0)))]) [0, 2] rfl
  have hD9 := hD.sub (ws' := [(h0, .inr (6, [.ref w0, .ref w1, .ref w2])), (w2, .inl (k2, 8, .inl (upd (upd (upd (upd (upd (upd (upd (upd f2 (Int32.toNatClampNeg 0) 0) (Int32.toNatClampNeg 1) 0) (Int32.toNatClampNeg 2) 0) (Int32.toNatClampNeg 3) 0) (Int32.toNatClampNeg 4) 0) (Int32.toNatClampNeg 5) 0) (Int32.toNatClampNeg 6) 0) (Int32.toNatClampNeg 7) 0)))]) [0, 2] (by decide) rfl
  have hK9 := hK.sub (tys' := []) [] rfl
  exact W.vret hx hb hr (fun t ht hW => ⟨⟨((fun _ => 0), (fun _ => (dC 0)), (fun k => ([upd (upd (upd (upd (upd (upd (upd (upd f2 (Int32.toNatClampNeg 0) 0) (Int32.toNatClampNeg 1) 0) (Int32.toNatClampNeg 2) 0) (Int32.toNatClampNeg 3) 0) (Int32.toNatClampNeg 4) 0) (Int32.toNatClampNeg 5) 0) (Int32.toNatClampNeg 6) 0) (Int32.toNatClampNeg 7) 0] : List (Nat → Int32)).getD k (fun _ => 0)), (fun _ => (fun _ => none))), rfl, trivial, by rw [ht]; exact hP9, hD9, va_K.moved hW.alike hK9⟩, hS.F ht⟩) hS.2.2 dX6_clear_28

set_option maxHeartbeats 4000000 in
set_option maxRecDepth 100000 in
theorem c_X6_give (l : Launch) (dC : Nat → ClassId) (dI : Nat → Nat → Nat) (h0 : Nat) (w0 : Nat) (w1 : Nat) (w2 : Nat) (k2 : ClassId) (f2 : Nat → Int32) (v1 : Int32) (v2 : Int32) (sz : Nat)  : Met l yX6_give (.code yX6_give cX6_give 3 none :: gw) ({ frames := 1, cells := 0, slots := 0, locals := 20 }) (va_Pc [.ref h0, .int v1, .int v2] (fun U => U.heap.size = sz ∧ va_P (dC, dI) vwCl [(h0, .inr (6, [.ref w0, .ref w1, .ref w2])), (w2, .inl (k2, 8, .inl f2))] U.heap ∧ va_K (dC, dI) vwCl [(k2, .int)] U ∧ va_D (fun _ => True) [(h0, .inr (6, [.ref w0, .ref w1, .ref w2])), (w2, .inl (k2, 8, .inl f2))] ∧ nx U)) (va_Qv (fun (u : wS) => True) (fun u t => va_P (dC, dI) vwCl [(h0, .inr (6, [.ref w0, .ref w1, .ref w2])), (w2, .inl (k2, 8, .inl (u.2.2.1 0)))] t.heap ∧ va_D (va_A [(h0, .inr (6, [.ref w0, .ref w1, .ref w2])), (w2, .inl (k2, 8, .inl f2))] sz) [(h0, .inr (6, [.ref w0, .ref w1, .ref w2])), (w2, .inl (k2, 8, .inl (u.2.2.1 0)))] ∧ va_K (dC, dI) vwCl [] t) (va_A [(h0, .inr (6, [.ref w0, .ref w1, .ref w2])), (w2, .inl (k2, 8, .inl f2))] sz)) 0 0 (va_A [(h0, .inr (6, [.ref w0, .ref w1, .ref w2])), (w2, .inl (k2, 8, .inl f2))] sz) := by
  refine Met.ofW (cc := cX6_give) (maxL := 3) (ret := none) (by decide) rfl ?_
  intro p e s m args below meth c s₁ B hml hv
  obtain ⟨rfl, hsz, hP, hK, hD0, hN⟩ := hv
  have hx := B.exec
  have hb := B.bytes
  have hr := B.returns
  have hts := atoms_spec (ws := .code yX6_give cX6_give 3 none :: gw) B.pre
  have hg : ∀ w ∈ gw, w.before _ s = true := fun w h => hts w (List.mem_cons_of_mem _ h)
  have hown : s.vm.findClass RX6 = some m.cls := findClass_of_methodNamed B.named
  have hlocks := B.notSynchronized
  subst hsz
  have hD := hD0.self (sz := s.heap.size)
  generalize hAe : va_A [(h0, .inr (6, [.ref w0, .ref w1, .ref w2])), (w2, .inl (k2, 8, .inl f2))] s.heap.size = A at hD ⊢
  have hA : ∀ q : Nat, s.heap.size ≤ q → A q := fun q h => by rw [← hAe]; exact Or.inr h
  have hS : va_S A s.heap s.heap [] := va_S.rf
  have hP : va_P (dC, dI) vwCl [(h0, .inr (6, [.ref w0, .ref w1, .ref w2])), (w2, .inl (k2, 8, .inl f2))] s.heap := hP
  have hl := lv_entry ([.ref h0, .int v1, .int v2]) (n := 3) (Nat.le_of_ble_eq_true rfl)
  rw [lg_entry_eq]
  generalize (lg_sl ([.ref h0, .int v1, .int v2]) ++ List.replicate (3 - (lg_sl ([.ref h0, .int v1, .int v2])).length) Slot.unset).toArray = ls at hl ⊢
  have hl : lv_has ls 3 [(0, .ref h0), (1, .int v1), (2, .int v2)] := hl
  refine lv_iload_n hx hb dX6_give_0 rfl (lv_at hl 1 rfl) ?_
  have hPc := hP.sub (ws' := []) [] rfl
  have hDc := hD.sub (ws' := []) [] (by decide) rfl
  have hKc := hK.sub (tys' := []) [] rfl
  have hFc := va_free (wc := []) hD hS hA [] rfl
  refine va_calli (va_runSN (As := [.int v1]) (rest := []) ⟨hx, hb, hml, hown, hg⟩ (c_X9_isSlot l dC dI v1 s.heap.size ) (⟨va_cnB 1 hg (gw_c gm_code_yX9_isSlot_cX9_isSlot_1_some_boolean_) rfl rfl rfl (nx_RX6_22 hN) (hg _ gm_initialized_RX9) (by decide +kernel) ⟨Nat.le_of_ble_eq_true rfl, Nat.le_of_ble_eq_true rfl⟩, hg _ gm_static_yX9_isSlot, trivial⟩) ⟨fun a U g mk q => by obtain ⟨q0, q1, qP, qK, qD, qN⟩ := q; exact ⟨q0, q1, qP, va_K.moved (u := U) (U := U.calling g mk a) (Vm.Alike.refl U.vm) qK, qD, nx_same (u := U) (U := U.calling g mk a) rfl qN⟩, fun U hU hW => ⟨rfl, by rw [hU], by rw [hU]; exact hPc, va_K.moved hW.alike hKc, hDc.weaken (fun _ _ _ _ => trivial), nx_warm hW hN⟩⟩ rfl rfl hl.1 rfl (lv_room (Nat.le_of_ble_eq_true rfl)) dX6_give_1 ⟨Nat.le_of_ble_eq_true rfl, Nat.le_of_ble_eq_true rfl⟩) hS (fun q _ h => hFc q h) hFc (fun r_1 u_2 t H1 locs ht hvm hw hB hz1 hk1 hS => ?_)
  have hP1 : va_P (dC, dI) vwCl [] H1 := nil_P
  have hD1 := nil_D (A := va_A [] s.heap.size)
  obtain ⟨hP, hD⟩ := va_join (wr := [(h0, .inr (6, [.ref w0, .ref w1, .ref w2])), (w2, .inl (k2, 8, .inl f2))]) (w1 := []) hP hD [] [0, 1] rfl rfl (by decide) (by decide +kernel) hk1 hFc hP1 hD1
  generalize H1 = H at hP hS ⊢
  have hP : va_P (dC, dI) vwCl [(h0, .inr (6, [.ref w0, .ref w1, .ref w2])), (w2, .inl (k2, 8, .inl f2))] H := hP
  have hD : va_D A [(h0, .inr (6, [.ref w0, .ref w1, .ref w2])), (w2, .inl (k2, 8, .inl f2))] := hD
  refine W.widen (k := 0) (n := 0) (Nat.le_of_ble_eq_true rfl) (Nat.le_of_ble_eq_true rfl) ?_
  rcases hw with ⟨rfl, w_3⟩ | ⟨rfl, w_3⟩
  · refine lv_if_eq (tgt := 14) hx hb dX6_give_4 (by decide) (fun c_4 => absurd c_4 (by decide)) (fun _ => ?_)
    refine lv_aload_n hx hb dX6_give_7 rfl (lv_at hl 0 rfl) ?_
    refine va_get (D := (dC, dI)) (ci := 6) (v := .ref w2) (C := RX6) (T := TX6) (N := 3) hx hb hg gb_6 hown hK hP 0 rfl rfl 2 (by decide) (hg _ gm_fieldLink_RX6_19_ErrandGuild_Memory_given_AI_) (fun _ h9 => h9) rfl dX6_give_8 ?_
    refine lv_iload_n hx hb dX6_give_11 rfl (lv_at hl 1 rfl) ?_
    refine lv_iload_n hx hb dX6_give_12 rfl (lv_at hl 2 rfl) ?_
    refine va_iast hx hb hK hP hD hS 1 0 rfl rfl (vp_in_iff.mpr ⟨by omega, by omega⟩) dX6_give_13 (fun H locs hP hD hS => ?_)
    have hP : va_P (dC, dI) vwCl [(h0, .inr (6, [.ref w0, .ref w1, .ref w2])), (w2, .inl (k2, 8, .inl (upd f2 (Int32.toNatClampNeg v1) v2)))] H := hP
    have hD : va_D A [(h0, .inr (6, [.ref w0, .ref w1, .ref w2])), (w2, .inl (k2, 8, .inl (upd f2 (Int32.toNatClampNeg v1) v2)))] := hD
    have hP9 := hP.sub (ws' := [(h0, .inr (6, [.ref w0, .ref w1, .ref w2])), (w2, .inl (k2, 8, .inl (upd f2 (Int32.toNatClampNeg v1) v2)))]) [0, 1] rfl
    have hD9 := hD.sub (ws' := [(h0, .inr (6, [.ref w0, .ref w1, .ref w2])), (w2, .inl (k2, 8, .inl (upd f2 (Int32.toNatClampNeg v1) v2)))]) [0, 1] (by decide) rfl
    have hK9 := hK.sub (tys' := []) [] rfl
    exact W.vret hx hb hr (fun t ht hW => ⟨⟨((fun _ => 0), (fun _ => (dC 0)), (fun k => ([upd f2 (Int32.toNatClampNeg v1) v2] : List (Nat → Int32)).getD k (fun _ => 0)), (fun _ => (fun _ => none))), rfl, trivial, by rw [ht]; exact hP9, hD9, va_K.moved hW.alike hK9⟩, hS.F ht⟩) hS.2.2 dX6_give_14
  · refine lv_if_eq (tgt := 14) hx hb dX6_give_4 (by decide) (fun _ => ?_) (fun c_5 => absurd c_5 (by decide))
    have hP9 := hP.sub (ws' := [(h0, .inr (6, [.ref w0, .ref w1, .ref w2])), (w2, .inl (k2, 8, .inl f2))]) [0, 1] rfl
    have hD9 := hD.sub (ws' := [(h0, .inr (6, [.ref w0, .ref w1, .ref w2])), (w2, .inl (k2, 8, .inl f2))]) [0, 1] (by decide) rfl
    have hK9 := hK.sub (tys' := []) [] rfl
    exact W.vret hx hb hr (fun t ht hW => ⟨⟨((fun _ => 0), (fun _ => (dC 0)), (fun k => ([f2] : List (Nat → Int32)).getD k (fun _ => 0)), (fun _ => (fun _ => none))), rfl, trivial, by rw [ht]; exact hP9, hD9, va_K.moved hW.alike hK9⟩, hS.F ht⟩) hS.2.2 dX6_give_14

set_option maxHeartbeats 4000000 in
set_option maxRecDepth 100000 in
theorem c_X8_clear (l : Launch) (dC : Nat → ClassId) (dI : Nat → Nat → Nat) (h0 : Nat) (w0 : Nat) (w1 : Nat) (w2 : Nat) (w3 : Nat) (w4 : Nat) (w5 : Nat) (sz : Nat)  : Met l yX8_clear (.code yX8_clear cX8_clear 1 none :: gw) ({ frames := 0, cells := 0, slots := 0, locals := 0 }) (va_Pc [.ref h0] (fun U => U.heap.size = sz ∧ va_P (dC, dI) vwCl [(h0, .inr (8, [.ref w0, .ref w1, .ref w2, .int 0, .ref w3, .ref w4, .ref w5, .int 0, .int 0]))] U.heap ∧ va_K (dC, dI) vwCl [] U ∧ va_D (fun _ => True) [(h0, .inr (8, [.ref w0, .ref w1, .ref w2, .int 0, .ref w3, .ref w4, .ref w5, .int 0, .int 0]))] ∧ nx U)) (va_Qv (fun (u : Unit) => True) (fun _ _ => True) (va_A [(h0, .inr (8, [.ref w0, .ref w1, .ref w2, .int 0, .ref w3, .ref w4, .ref w5, .int 0, .int 0]))] sz)) 0 0 (va_A [(h0, .inr (8, [.ref w0, .ref w1, .ref w2, .int 0, .ref w3, .ref w4, .ref w5, .int 0, .int 0]))] sz) := by
  refine Met.ofW (cc := cX8_clear) (maxL := 1) (ret := none) (by decide) rfl ?_
  intro p e s m args below meth c s₁ B hml hv
  obtain ⟨rfl, hsz, hP, hK, hD0, hN⟩ := hv
  have hx := B.exec
  have hb := B.bytes
  have hr := B.returns
  have hts := atoms_spec (ws := .code yX8_clear cX8_clear 1 none :: gw) B.pre
  have hg : ∀ w ∈ gw, w.before _ s = true := fun w h => hts w (List.mem_cons_of_mem _ h)
  have hown : s.vm.findClass RX8 = some m.cls := findClass_of_methodNamed B.named
  have hlocks := B.notSynchronized
  subst hsz
  have hD := hD0.self (sz := s.heap.size)
  generalize hAe : va_A [(h0, .inr (8, [.ref w0, .ref w1, .ref w2, .int 0, .ref w3, .ref w4, .ref w5, .int 0, .int 0]))] s.heap.size = A at hD ⊢
  have hA : ∀ q : Nat, s.heap.size ≤ q → A q := fun q h => by rw [← hAe]; exact Or.inr h
  have hS : va_S A s.heap s.heap [] := va_S.rf
  have hP : va_P (dC, dI) vwCl [(h0, .inr (8, [.ref w0, .ref w1, .ref w2, .int 0, .ref w3, .ref w4, .ref w5, .int 0, .int 0]))] s.heap := hP
  have hl := lv_entry ([.ref h0]) (n := 1) (Nat.le_of_ble_eq_true rfl)
  rw [lg_entry_eq]
  generalize (lg_sl ([.ref h0]) ++ List.replicate (1 - (lg_sl ([.ref h0])).length) Slot.unset).toArray = ls at hl ⊢
  have hl : lv_has ls 1 [(0, .ref h0)] := hl
  refine lv_aload_n hx hb dX8_clear_0 rfl (lv_at hl 0 rfl) ?_
  refine lv_iconst (v := 0) hx hb dX8_clear_1 (by decide) ?_
  refine va_put (D := (dC, dI)) (ci := 8) (v := .int 0) (ty := .int) (C := RX8) (T := TX8) (N := 9) hx hb hg gb_8 tyX8 tyX8_ok nmX8 hown hK hP hD hS 0 rfl rfl 3 (by decide) (hg _ gm_fieldLink_RX8_30_ErrandGuild_Scopes_bindings_I_) (fun _ h9 => h9) rfl (by decide +kernel) rfl rfl (Nat.le_of_ble_eq_true rfl) dX8_clear_2 (fun H locs hP hD hS => ?_)
  have hP : va_P (dC, dI) vwCl [(h0, .inr (8, [.ref w0, .ref w1, .ref w2, .int 0, .ref w3, .ref w4, .ref w5, .int 0, .int 0]))] H := hP
  have hD : va_D A [(h0, .inr (8, [.ref w0, .ref w1, .ref w2, .int 0, .ref w3, .ref w4, .ref w5, .int 0, .int 0]))] := hD
  refine lv_aload_n hx hb dX8_clear_5 rfl (lv_at hl 0 rfl) ?_
  refine lv_iconst (v := 0) hx hb dX8_clear_6 (by decide) ?_
  refine va_put (D := (dC, dI)) (ci := 8) (v := .int 0) (ty := .int) (C := RX8) (T := TX8) (N := 9) hx hb hg gb_8 tyX8 tyX8_ok nmX8 hown hK hP hD hS 0 rfl rfl 7 (by decide) (hg _ gm_fieldLink_RX8_34_ErrandGuild_Scopes_tries_I_) (fun _ h9 => h9) rfl (by decide +kernel) rfl rfl (Nat.le_of_ble_eq_true rfl) dX8_clear_7 (fun H locs hP hD hS => ?_)
  have hP : va_P (dC, dI) vwCl [(h0, .inr (8, [.ref w0, .ref w1, .ref w2, .int 0, .ref w3, .ref w4, .ref w5, .int 0, .int 0]))] H := hP
  have hD : va_D A [(h0, .inr (8, [.ref w0, .ref w1, .ref w2, .int 0, .ref w3, .ref w4, .ref w5, .int 0, .int 0]))] := hD
  refine lv_aload_n hx hb dX8_clear_10 rfl (lv_at hl 0 rfl) ?_
  refine lv_iconst (v := 0) hx hb dX8_clear_11 (by decide) ?_
  refine va_put (D := (dC, dI)) (ci := 8) (v := .int 0) (ty := .int) (C := RX8) (T := TX8) (N := 9) hx hb hg gb_8 tyX8 tyX8_ok nmX8 hown hK hP hD hS 0 rfl rfl 8 (by decide) (hg _ gm_fieldLink_RX8_37_ErrandGuild_Scopes_marks_I_) (fun _ h9 => h9) rfl (by decide +kernel) rfl rfl (Nat.le_of_ble_eq_true rfl) dX8_clear_12 (fun H locs hP hD hS => ?_)
  have hP : va_P (dC, dI) vwCl [(h0, .inr (8, [.ref w0, .ref w1, .ref w2, .int 0, .ref w3, .ref w4, .ref w5, .int 0, .int 0]))] H := hP
  have hD : va_D A [(h0, .inr (8, [.ref w0, .ref w1, .ref w2, .int 0, .ref w3, .ref w4, .ref w5, .int 0, .int 0]))] := hD
  exact W.vret hx hb hr (fun t ht hW => ⟨⟨(), rfl, trivial, trivial⟩, hS.F ht⟩) hS.2.2 dX8_clear_15

set_option maxHeartbeats 4000000 in
set_option maxRecDepth 100000 in
theorem c_X2_clear (l : Launch) (dC : Nat → ClassId) (dI : Nat → Nat → Nat) (h0 : Nat) (sz : Nat)  : Met l yX2_clear (.code yX2_clear cX2_clear 1 none :: gw) ({ frames := 0, cells := 0, slots := 0, locals := 0 }) (va_Pc [.ref h0] (fun U => U.heap.size = sz ∧ va_P (dC, dI) vwCl [(h0, .inr (2, [.int 0, .int 0, .int 0, .int 0, .int 0]))] U.heap ∧ va_K (dC, dI) vwCl [] U ∧ va_D (fun _ => True) [(h0, .inr (2, [.int 0, .int 0, .int 0, .int 0, .int 0]))] ∧ nx U)) (va_Qv (fun (u : Unit) => True) (fun _ _ => True) (va_A [(h0, .inr (2, [.int 0, .int 0, .int 0, .int 0, .int 0]))] sz)) 0 0 (va_A [(h0, .inr (2, [.int 0, .int 0, .int 0, .int 0, .int 0]))] sz) := by
  refine Met.ofW (cc := cX2_clear) (maxL := 1) (ret := none) (by decide) rfl ?_
  intro p e s m args below meth c s₁ B hml hv
  obtain ⟨rfl, hsz, hP, hK, hD0, hN⟩ := hv
  have hx := B.exec
  have hb := B.bytes
  have hr := B.returns
  have hts := atoms_spec (ws := .code yX2_clear cX2_clear 1 none :: gw) B.pre
  have hg : ∀ w ∈ gw, w.before _ s = true := fun w h => hts w (List.mem_cons_of_mem _ h)
  have hown : s.vm.findClass RX2 = some m.cls := findClass_of_methodNamed B.named
  have hlocks := B.notSynchronized
  subst hsz
  have hD := hD0.self (sz := s.heap.size)
  generalize hAe : va_A [(h0, .inr (2, [.int 0, .int 0, .int 0, .int 0, .int 0]))] s.heap.size = A at hD ⊢
  have hA : ∀ q : Nat, s.heap.size ≤ q → A q := fun q h => by rw [← hAe]; exact Or.inr h
  have hS : va_S A s.heap s.heap [] := va_S.rf
  have hP : va_P (dC, dI) vwCl [(h0, .inr (2, [.int 0, .int 0, .int 0, .int 0, .int 0]))] s.heap := hP
  have hl := lv_entry ([.ref h0]) (n := 1) (Nat.le_of_ble_eq_true rfl)
  rw [lg_entry_eq]
  generalize (lg_sl ([.ref h0]) ++ List.replicate (1 - (lg_sl ([.ref h0])).length) Slot.unset).toArray = ls at hl ⊢
  have hl : lv_has ls 1 [(0, .ref h0)] := hl
  refine lv_aload_n hx hb dX2_clear_0 rfl (lv_at hl 0 rfl) ?_
  refine lv_iconst (v := -1) hx hb dX2_clear_1 (by decide) ?_
  refine va_put (D := (dC, dI)) (ci := 2) (v := .int (-1)) (ty := .int) (C := RX2) (T := TX2) (N := 5) hx hb hg gb_2 tyX2 tyX2_ok nmX2 hown hK hP hD hS 0 rfl rfl 0 (by decide) (hg _ gm_fieldLink_RX2_9_ErrandGuild_Fault_kind_I_) (fun _ h9 => h9) rfl (by decide +kernel) rfl rfl (Nat.le_of_ble_eq_true rfl) dX2_clear_2 (fun H locs hP hD hS => ?_)
  have hP : va_P (dC, dI) vwCl [(h0, .inr (2, [.int (-1), .int 0, .int 0, .int 0, .int 0]))] H := hP
  have hD : va_D A [(h0, .inr (2, [.int (-1), .int 0, .int 0, .int 0, .int 0]))] := hD
  refine lv_aload_n hx hb dX2_clear_5 rfl (lv_at hl 0 rfl) ?_
  refine lv_iconst (v := -1) hx hb dX2_clear_6 (by decide) ?_
  refine va_put (D := (dC, dI)) (ci := 2) (v := .int (-1)) (ty := .int) (C := RX2) (T := TX2) (N := 5) hx hb hg gb_2 tyX2 tyX2_ok nmX2 hown hK hP hD hS 0 rfl rfl 1 (by decide) (hg _ gm_fieldLink_RX2_15_ErrandGuild_Fault_step_I_) (fun _ h9 => h9) rfl (by decide +kernel) rfl rfl (Nat.le_of_ble_eq_true rfl) dX2_clear_7 (fun H locs hP hD hS => ?_)
  have hP : va_P (dC, dI) vwCl [(h0, .inr (2, [.int (-1), .int (-1), .int 0, .int 0, .int 0]))] H := hP
  have hD : va_D A [(h0, .inr (2, [.int (-1), .int (-1), .int 0, .int 0, .int 0]))] := hD
  refine lv_aload_n hx hb dX2_clear_10 rfl (lv_at hl 0 rfl) ?_
  refine lv_iconst (v := -1) hx hb dX2_clear_11 (by decide) ?_
  refine va_put (D := (dC, dI)) (ci := 2) (v := .int (-1)) (ty := .int) (C := RX2) (T := TX2) (N := 5) hx hb hg gb_2 tyX2 tyX2_ok nmX2 hown hK hP hD hS 0 rfl rfl 2 (by decide) (hg _ gm_fieldLink_RX2_18_ErrandGuild_Fault_cause_I_) (fun _ h9 => h9) rfl (by decide +kernel) rfl rfl (Nat.le_of_ble_eq_true rfl) dX2_clear_12 (fun H locs hP hD hS => ?_)
  have hP : va_P (dC, dI) vwCl [(h0, .inr (2, [.int (-1), .int (-1), .int (-1), .int 0, .int 0]))] H := hP
  have hD : va_D A [(h0, .inr (2, [.int (-1), .int (-1), .int (-1), .int 0, .int 0]))] := hD
  refine lv_aload_n hx hb dX2_clear_15 rfl (lv_at hl 0 rfl) ?_
  refine lv_iconst (v := 0) hx hb dX2_clear_16 (by decide) ?_
  refine va_put (D := (dC, dI)) (ci := 2) (v := .int 0) (ty := .int) (C := RX2) (T := TX2) (N := 5) hx hb hg gb_2 tyX2 tyX2_ok nmX2 hown hK hP hD hS 0 rfl rfl 3 (by decide) (hg _ gm_fieldLink_RX2_21_ErrandGuild_Fault_suppressed_I_) (fun _ h9 => h9) rfl (by decide +kernel) rfl rfl (Nat.le_of_ble_eq_true rfl) dX2_clear_17 (fun H locs hP hD hS => ?_)
  have hP : va_P (dC, dI) vwCl [(h0, .inr (2, [.int (-1), .int (-1), .int (-1), .int 0, .int 0]))] H := hP
  have hD : va_D A [(h0, .inr (2, [.int (-1), .int (-1), .int (-1), .int 0, .int 0]))] := hD
  refine lv_aload_n hx hb dX2_clear_20 rfl (lv_at hl 0 rfl) ?_
  refine lv_iconst (v := 0) hx hb dX2_clear_21 (by decide) ?_
  refine va_put (D := (dC, dI)) (ci := 2) (v := .int 0) (ty := .boolean) (C := RX2) (T := TX2) (N := 5) hx hb hg gb_2 tyX2 tyX2_ok nmX2 hown hK hP hD hS 0 rfl rfl 4 (by decide) (hg _ gm_fieldLink_RX2_24_ErrandGuild_Fault_uncaught_Z_) (fun _ h9 => h9) rfl (by decide +kernel) rfl rfl (Nat.le_of_ble_eq_true rfl) dX2_clear_22 (fun H locs hP hD hS => ?_)
  have hP : va_P (dC, dI) vwCl [(h0, .inr (2, [.int (-1), .int (-1), .int (-1), .int 0, .int 0]))] H := hP
  have hD : va_D A [(h0, .inr (2, [.int (-1), .int (-1), .int (-1), .int 0, .int 0]))] := hD
  exact W.vret hx hb hr (fun t ht hW => ⟨⟨(), rfl, trivial, trivial⟩, hS.F ht⟩) hS.2.2 dX2_clear_25

set_option maxHeartbeats 4000000 in
set_option maxRecDepth 100000 in
theorem c_X0_init (l : Launch) (dC : Nat → ClassId) (dI : Nat → Nat → Nat) (h0 : Nat) (v1 : Int32) (sz : Nat)  : Met l yX0_init (.code yX0_init cX0_init 2 none :: gw) ({ frames := 1, cells := 1, slots := 16, locals := 20 }) (va_Pc [.ref h0, .int v1] (fun U => U.heap.size = sz ∧ va_P (dC, dI) vwCl [(h0, .inr (0, [.int 0, .null, .int 0]))] U.heap ∧ va_K (dC, dI) vwCl [] U ∧ va_D (fun _ => True) [(h0, .inr (0, [.int 0, .null, .int 0]))] ∧ nx U)) (va_Qv (fun (u : wS) => True) (fun u t => va_P (dC, dI) vwCl [(h0, .inr (0, [.int v1, .ref (u.1 0), .int 0]))] t.heap ∧ va_D (va_A [(h0, .inr (0, [.int 0, .null, .int 0]))] sz) [(h0, .inr (0, [.int v1, .ref (u.1 0), .int 0]))] ∧ va_K (dC, dI) vwCl [] t) (va_A [(h0, .inr (0, [.int 0, .null, .int 0]))] sz)) 1 16 (va_A [(h0, .inr (0, [.int 0, .null, .int 0]))] sz) := by
  refine Met.ofW (cc := cX0_init) (maxL := 2) (ret := none) (by decide) rfl ?_
  intro p e s m args below meth c s₁ B hml hv
  obtain ⟨rfl, hsz, hP, hK, hD0, hN⟩ := hv
  have hx := B.exec
  have hb := B.bytes
  have hr := B.returns
  have hts := atoms_spec (ws := .code yX0_init cX0_init 2 none :: gw) B.pre
  have hg : ∀ w ∈ gw, w.before _ s = true := fun w h => hts w (List.mem_cons_of_mem _ h)
  have hown : s.vm.findClass RX0 = some m.cls := findClass_of_methodNamed B.named
  have hlocks := B.notSynchronized
  have hin : meth.name = "<init>" := (name_of_methodNamed B.named B.method).1
  subst hsz
  have hD := hD0.self (sz := s.heap.size)
  generalize hAe : va_A [(h0, .inr (0, [.int 0, .null, .int 0]))] s.heap.size = A at hD ⊢
  have hA : ∀ q : Nat, s.heap.size ≤ q → A q := fun q h => by rw [← hAe]; exact Or.inr h
  have hS : va_S A s.heap s.heap [] := va_S.rf
  have hP : va_P (dC, dI) vwCl [(h0, .inr (0, [.int 0, .null, .int 0]))] s.heap := hP
  have hl := lv_entry ([.ref h0, .int v1]) (n := 2) (Nat.le_of_ble_eq_true rfl)
  rw [lg_entry_eq]
  generalize (lg_sl ([.ref h0, .int v1]) ++ List.replicate (2 - (lg_sl ([.ref h0, .int v1])).length) Slot.unset).toArray = ls at hl ⊢
  have hl : lv_has ls 2 [(0, .ref h0), (1, .int v1)] := hl
  refine lv_aload_n hx hb dX0_init_0 rfl (lv_at hl 0 rfl) ?_
  refine W.objInit hx hb hown (hg _ gm_methodLink_RX0_3_objectInit) (hg _ gm_instanceMethod_objectInit) (hg _ gm_code_objectInit_oi_1_none) rfl (by rw [hml]; exact hl.1) rfl dX0_init_1 (Nat.le_of_ble_eq_true rfl) (Nat.le_of_ble_eq_true rfl) ?_
  refine W.eq (g2 := F0 m 4 ls []) rfl ?_
  refine lv_aload_n hx hb dX0_init_4 rfl (lv_at hl 0 rfl) ?_
  refine lv_bipush (v := 16) hx hb dX0_init_5 (by decide) ?_
  refine va_newa (atype := .int) (ty := .int) (N' := 16) (a0 := (16, .inl (fun _ => 0))) hx hb (hg _ gm_arrayClass_int) rfl hK hP hD hS hA (fun _ => rfl) (by decide) (by decide) (Nat.le_of_ble_eq_true rfl) (Nat.le_of_ble_eq_true rfl) (Nat.le_of_ble_eq_true rfl) dX0_init_7 (fun q_1 k_2 H hK hP hD hS => ?_)
  have hK : va_K (dC, dI) vwCl [(k_2, .int)] s := hK
  have hP : va_P (dC, dI) vwCl [(h0, .inr (0, [.int 0, .null, .int 0])), (q_1, .inl (k_2, 16, .inl (fun _ => 0)))] H := hP
  have hD : va_D A [(h0, .inr (0, [.int 0, .null, .int 0])), (q_1, .inl (k_2, 16, .inl (fun _ => 0)))] := hD
  refine W.widen (k := 1) (n := 16) (Nat.le_of_ble_eq_true rfl) (Nat.le_of_ble_eq_true rfl) ?_
  refine va_put (D := (dC, dI)) (ci := 0) (v := .ref q_1) (ty := .array .int) (C := RX0) (T := TX0) (N := 3) hx hb hg gb_0 tyX0 tyX0_ok nmX0 hown hK hP hD hS 0 rfl rfl 1 (by decide) (hg _ gm_fieldLink_RX0_9_ErrandGuild_Cells_cells_AI_) (fun _ h9 => h9) rfl (by decide +kernel) rfl rfl (Nat.le_of_ble_eq_true rfl) dX0_init_9 (fun H locs hP hD hS => ?_)
  have hP : va_P (dC, dI) vwCl [(h0, .inr (0, [.int 0, .ref q_1, .int 0])), (q_1, .inl (k_2, 16, .inl (fun _ => 0)))] H := hP
  have hD : va_D A [(h0, .inr (0, [.int 0, .ref q_1, .int 0])), (q_1, .inl (k_2, 16, .inl (fun _ => 0)))] := hD
  refine lv_aload_n hx hb dX0_init_12 rfl (lv_at hl 0 rfl) ?_
  refine lv_iload_n hx hb dX0_init_13 rfl (lv_at hl 1 rfl) ?_
  refine va_putF (D := (dC, dI)) (ci := 0) (v := .int v1) (ty := .int) (C := RX0) (T := TX0) (N := 3) hx hb hg gb_0 tyX0 tyX0_ok nmX0 hown hK hP hD hS 0 rfl rfl 0 (by decide) (hg _ gm_fieldLink_RX0_15_ErrandGuild_Cells_limit_I_) (fun _ h9 => h9) rfl hin rfl (by decide +kernel) rfl rfl (Nat.le_of_ble_eq_true rfl) dX0_init_14 (fun H locs hP hD hS => ?_)
  have hP : va_P (dC, dI) vwCl [(h0, .inr (0, [.int v1, .ref q_1, .int 0])), (q_1, .inl (k_2, 16, .inl (fun _ => 0)))] H := hP
  have hD : va_D A [(h0, .inr (0, [.int v1, .ref q_1, .int 0])), (q_1, .inl (k_2, 16, .inl (fun _ => 0)))] := hD
  have hP9 := hP.sub (ws' := [(h0, .inr (0, [.int v1, .ref q_1, .int 0]))]) [0] rfl
  have hD9 := hD.sub (ws' := [(h0, .inr (0, [.int v1, .ref q_1, .int 0]))]) [0] (by decide) rfl
  have hK9 := hK.sub (tys' := []) [] rfl
  exact W.vret hx hb hr (fun t ht hW => ⟨⟨((fun k => ([q_1] : List Nat).getD k 0), (fun _ => (dC 0)), (fun _ => (fun _ => 0)), (fun _ => (fun _ => none))), rfl, trivial, by rw [ht]; exact hP9, hD9, va_K.moved hW.alike hK9⟩, hS.F ht⟩) hS.2.2 dX0_init_17

set_option maxHeartbeats 4000000 in
set_option maxRecDepth 100000 in
theorem c_X1_init (l : Launch) (dC : Nat → ClassId) (dI : Nat → Nat → Nat) (h0 : Nat) (sz : Nat)  : Met l yX1_init (.code yX1_init cX1_init 1 none :: gw) ({ frames := 1, cells := 3, slots := 72, locals := 20 }) (va_Pc [.ref h0] (fun U => U.heap.size = sz ∧ va_P (dC, dI) vwCl [(h0, .inr (1, [.null, .null, .null, .int 0]))] U.heap ∧ va_K (dC, dI) vwCl [] U ∧ va_D (fun _ => True) [(h0, .inr (1, [.null, .null, .null, .int 0]))] ∧ nx U)) (va_Qv (fun (u : wS) => True) (fun u t => va_P (dC, dI) vwCl [(h0, .inr (1, [.ref (u.1 0), .ref (u.1 1), .ref (u.1 2), .int 0])), ((u.1 0), .inl ((u.2.1 0), 24, .inl (fun _ => 0))), ((u.1 1), .inl ((u.2.1 1), 24, .inl (fun _ => 0))), ((u.1 2), .inl ((u.2.1 2), 24, .inl (fun _ => 0)))] t.heap ∧ va_D (va_A [(h0, .inr (1, [.null, .null, .null, .int 0]))] sz) [(h0, .inr (1, [.ref (u.1 0), .ref (u.1 1), .ref (u.1 2), .int 0])), ((u.1 0), .inl ((u.2.1 0), 24, .inl (fun _ => 0))), ((u.1 1), .inl ((u.2.1 1), 24, .inl (fun _ => 0))), ((u.1 2), .inl ((u.2.1 2), 24, .inl (fun _ => 0)))] ∧ va_K (dC, dI) vwCl [((u.2.1 0), .int), ((u.2.1 1), .int), ((u.2.1 2), .int)] t) (va_A [(h0, .inr (1, [.null, .null, .null, .int 0]))] sz)) 3 72 (va_A [(h0, .inr (1, [.null, .null, .null, .int 0]))] sz) := by
  refine Met.ofW (cc := cX1_init) (maxL := 1) (ret := none) (by decide) rfl ?_
  intro p e s m args below meth c s₁ B hml hv
  obtain ⟨rfl, hsz, hP, hK, hD0, hN⟩ := hv
  have hx := B.exec
  have hb := B.bytes
  have hr := B.returns
  have hts := atoms_spec (ws := .code yX1_init cX1_init 1 none :: gw) B.pre
  have hg : ∀ w ∈ gw, w.before _ s = true := fun w h => hts w (List.mem_cons_of_mem _ h)
  have hown : s.vm.findClass RX1 = some m.cls := findClass_of_methodNamed B.named
  have hlocks := B.notSynchronized
  have hin : meth.name = "<init>" := (name_of_methodNamed B.named B.method).1
  subst hsz
  have hD := hD0.self (sz := s.heap.size)
  generalize hAe : va_A [(h0, .inr (1, [.null, .null, .null, .int 0]))] s.heap.size = A at hD ⊢
  have hA : ∀ q : Nat, s.heap.size ≤ q → A q := fun q h => by rw [← hAe]; exact Or.inr h
  have hS : va_S A s.heap s.heap [] := va_S.rf
  have hP : va_P (dC, dI) vwCl [(h0, .inr (1, [.null, .null, .null, .int 0]))] s.heap := hP
  have hl := lv_entry ([.ref h0]) (n := 1) (Nat.le_of_ble_eq_true rfl)
  rw [lg_entry_eq]
  generalize (lg_sl ([.ref h0]) ++ List.replicate (1 - (lg_sl ([.ref h0])).length) Slot.unset).toArray = ls at hl ⊢
  have hl : lv_has ls 1 [(0, .ref h0)] := hl
  refine lv_aload_n hx hb dX1_init_0 rfl (lv_at hl 0 rfl) ?_
  refine W.objInit hx hb hown (hg _ gm_methodLink_RX1_3_objectInit) (hg _ gm_instanceMethod_objectInit) (hg _ gm_code_objectInit_oi_1_none) rfl (by rw [hml]; exact hl.1) rfl dX1_init_1 (Nat.le_of_ble_eq_true rfl) (Nat.le_of_ble_eq_true rfl) ?_
  refine W.eq (g2 := F0 m 4 ls []) rfl ?_
  refine lv_aload_n hx hb dX1_init_4 rfl (lv_at hl 0 rfl) ?_
  refine lv_bipush (v := 24) hx hb dX1_init_5 (by decide) ?_
  refine va_newa (atype := .int) (ty := .int) (N' := 24) (a0 := (24, .inl (fun _ => 0))) hx hb (hg _ gm_arrayClass_int) rfl hK hP hD hS hA (fun _ => rfl) (by decide) (by decide) (Nat.le_of_ble_eq_true rfl) (Nat.le_of_ble_eq_true rfl) (Nat.le_of_ble_eq_true rfl) dX1_init_7 (fun q_1 k_2 H hK hP hD hS => ?_)
  have hK : va_K (dC, dI) vwCl [(k_2, .int)] s := hK
  have hP : va_P (dC, dI) vwCl [(h0, .inr (1, [.null, .null, .null, .int 0])), (q_1, .inl (k_2, 24, .inl (fun _ => 0)))] H := hP
  have hD : va_D A [(h0, .inr (1, [.null, .null, .null, .int 0])), (q_1, .inl (k_2, 24, .inl (fun _ => 0)))] := hD
  refine W.widen (k := 1) (n := 24) (Nat.le_of_ble_eq_true rfl) (Nat.le_of_ble_eq_true rfl) ?_
  refine va_putF (D := (dC, dI)) (ci := 1) (v := .ref q_1) (ty := .array .int) (C := RX1) (T := TX1) (N := 4) hx hb hg gb_1 tyX1 tyX1_ok nmX1 hown hK hP hD hS 0 rfl rfl 0 (by decide) (hg _ gm_fieldLink_RX1_9_ErrandGuild_Errand_ops_AI_) (fun _ h9 => h9) rfl hin rfl (by decide +kernel) rfl rfl (Nat.le_of_ble_eq_true rfl) dX1_init_9 (fun H locs hP hD hS => ?_)
  have hP : va_P (dC, dI) vwCl [(h0, .inr (1, [.ref q_1, .null, .null, .int 0])), (q_1, .inl (k_2, 24, .inl (fun _ => 0)))] H := hP
  have hD : va_D A [(h0, .inr (1, [.ref q_1, .null, .null, .int 0])), (q_1, .inl (k_2, 24, .inl (fun _ => 0)))] := hD
  refine lv_aload_n hx hb dX1_init_12 rfl (lv_at hl 0 rfl) ?_
  refine lv_bipush (v := 24) hx hb dX1_init_13 (by decide) ?_
  refine va_newa (atype := .int) (ty := .int) (N' := 24) (a0 := (24, .inl (fun _ => 0))) hx hb (hg _ gm_arrayClass_int) rfl hK hP hD hS hA (fun _ => rfl) (by decide) (by decide) (Nat.le_of_ble_eq_true rfl) (Nat.le_of_ble_eq_true rfl) (Nat.le_of_ble_eq_true rfl) dX1_init_15 (fun q_3 k_4 H hK hP hD hS => ?_)
  have hK : va_K (dC, dI) vwCl [(k_2, .int), (k_4, .int)] s := hK
  have hP : va_P (dC, dI) vwCl [(h0, .inr (1, [.ref q_1, .null, .null, .int 0])), (q_1, .inl (k_2, 24, .inl (fun _ => 0))), (q_3, .inl (k_4, 24, .inl (fun _ => 0)))] H := hP
  have hD : va_D A [(h0, .inr (1, [.ref q_1, .null, .null, .int 0])), (q_1, .inl (k_2, 24, .inl (fun _ => 0))), (q_3, .inl (k_4, 24, .inl (fun _ => 0)))] := hD
  refine W.widen (k := 2) (n := 48) (Nat.le_of_ble_eq_true rfl) (Nat.le_of_ble_eq_true rfl) ?_
  refine va_putF (D := (dC, dI)) (ci := 1) (v := .ref q_3) (ty := .array .int) (C := RX1) (T := TX1) (N := 4) hx hb hg gb_1 tyX1 tyX1_ok nmX1 hown hK hP hD hS 0 rfl rfl 1 (by decide) (hg _ gm_fieldLink_RX1_15_ErrandGuild_Errand_as_AI_) (fun _ h9 => h9) rfl hin rfl (by decide +kernel) rfl rfl (Nat.le_of_ble_eq_true rfl) dX1_init_17 (fun H locs hP hD hS => ?_)
  have hP : va_P (dC, dI) vwCl [(h0, .inr (1, [.ref q_1, .ref q_3, .null, .int 0])), (q_1, .inl (k_2, 24, .inl (fun _ => 0))), (q_3, .inl (k_4, 24, .inl (fun _ => 0)))] H := hP
  have hD : va_D A [(h0, .inr (1, [.ref q_1, .ref q_3, .null, .int 0])), (q_1, .inl (k_2, 24, .inl (fun _ => 0))), (q_3, .inl (k_4, 24, .inl (fun _ => 0)))] := hD
  refine lv_aload_n hx hb dX1_init_20 rfl (lv_at hl 0 rfl) ?_
  refine lv_bipush (v := 24) hx hb dX1_init_21 (by decide) ?_
  refine va_newa (atype := .int) (ty := .int) (N' := 24) (a0 := (24, .inl (fun _ => 0))) hx hb (hg _ gm_arrayClass_int) rfl hK hP hD hS hA (fun _ => rfl) (by decide) (by decide) (Nat.le_of_ble_eq_true rfl) (Nat.le_of_ble_eq_true rfl) (Nat.le_of_ble_eq_true rfl) dX1_init_23 (fun q_5 k_6 H hK hP hD hS => ?_)
  have hK : va_K (dC, dI) vwCl [(k_2, .int), (k_4, .int), (k_6, .int)] s := hK
  have hP : va_P (dC, dI) vwCl [(h0, .inr (1, [.ref q_1, .ref q_3, .null, .int 0])), (q_1, .inl (k_2, 24, .inl (fun _ => 0))), (q_3, .inl (k_4, 24, .inl (fun _ => 0))), (q_5, .inl (k_6, 24, .inl (fun _ => 0)))] H := hP
  have hD : va_D A [(h0, .inr (1, [.ref q_1, .ref q_3, .null, .int 0])), (q_1, .inl (k_2, 24, .inl (fun _ => 0))), (q_3, .inl (k_4, 24, .inl (fun _ => 0))), (q_5, .inl (k_6, 24, .inl (fun _ => 0)))] := hD
  refine W.widen (k := 3) (n := 72) (Nat.le_of_ble_eq_true rfl) (Nat.le_of_ble_eq_true rfl) ?_
  refine va_putF (D := (dC, dI)) (ci := 1) (v := .ref q_5) (ty := .array .int) (C := RX1) (T := TX1) (N := 4) hx hb hg gb_1 tyX1 tyX1_ok nmX1 hown hK hP hD hS 0 rfl rfl 2 (by decide) (hg _ gm_fieldLink_RX1_18_ErrandGuild_Errand_bs_AI_) (fun _ h9 => h9) rfl hin rfl (by decide +kernel) rfl rfl (Nat.le_of_ble_eq_true rfl) dX1_init_25 (fun H locs hP hD hS => ?_)
  have hP : va_P (dC, dI) vwCl [(h0, .inr (1, [.ref q_1, .ref q_3, .ref q_5, .int 0])), (q_1, .inl (k_2, 24, .inl (fun _ => 0))), (q_3, .inl (k_4, 24, .inl (fun _ => 0))), (q_5, .inl (k_6, 24, .inl (fun _ => 0)))] H := hP
  have hD : va_D A [(h0, .inr (1, [.ref q_1, .ref q_3, .ref q_5, .int 0])), (q_1, .inl (k_2, 24, .inl (fun _ => 0))), (q_3, .inl (k_4, 24, .inl (fun _ => 0))), (q_5, .inl (k_6, 24, .inl (fun _ => 0)))] := hD
  have hP9 := hP.sub (ws' := [(h0, .inr (1, [.ref q_1, .ref q_3, .ref q_5, .int 0])), (q_1, .inl (k_2, 24, .inl (fun _ => 0))), (q_3, .inl (k_4, 24, .inl (fun _ => 0))), (q_5, .inl (k_6, 24, .inl (fun _ => 0)))]) [0, 1, 2, 3] rfl
  have hD9 := hD.sub (ws' := [(h0, .inr (1, [.ref q_1, .ref q_3, .ref q_5, .int 0])), (q_1, .inl (k_2, 24, .inl (fun _ => 0))), (q_3, .inl (k_4, 24, .inl (fun _ => 0))), (q_5, .inl (k_6, 24, .inl (fun _ => 0)))]) [0, 1, 2, 3] (by decide) rfl
  have hK9 := hK.sub (tys' := [(k_2, .int), (k_4, .int), (k_6, .int)]) [0, 1, 2] rfl
  exact W.vret hx hb hr (fun t ht hW => ⟨⟨((fun k => ([q_1, q_3, q_5] : List Nat).getD k 0), (fun k => ([k_2, k_4, k_6] : List ClassId).getD k (dC 0)), (fun _ => (fun _ => 0)), (fun _ => (fun _ => none))), rfl, trivial, by rw [ht]; exact hP9, hD9, va_K.moved hW.alike hK9⟩, hS.F ht⟩) hS.2.2 dX1_init_28

set_option maxHeartbeats 4000000 in
set_option maxRecDepth 100000 in
theorem c_X3_init (l : Launch) (dC : Nat → ClassId) (dI : Nat → Nat → Nat) (h0 : Nat) (sz : Nat)  : Met l yX3_init (.code yX3_init cX3_init 1 none :: gw) ({ frames := 1, cells := 3, slots := 51, locals := 20 }) (va_Pc [.ref h0] (fun U => U.heap.size = sz ∧ va_P (dC, dI) vwCl [(h0, .inr (3, [.null, .null, .null]))] U.heap ∧ va_K (dC, dI) vwCl [] U ∧ va_D (fun _ => True) [(h0, .inr (3, [.null, .null, .null]))] ∧ nx U)) (va_Qv (fun (u : wS) => True) (fun u t => va_P (dC, dI) vwCl [(h0, .inr (3, [.ref (u.1 0), .ref (u.1 1), .ref (u.1 2)])), ((u.1 0), .inl ((u.2.1 0), 17, .inl (fun _ => 0))), ((u.1 1), .inl ((u.2.1 1), 17, .inl (fun _ => 0))), ((u.1 2), .inl ((u.2.1 2), 17, .inl (fun _ => 0)))] t.heap ∧ va_D (va_A [(h0, .inr (3, [.null, .null, .null]))] sz) [(h0, .inr (3, [.ref (u.1 0), .ref (u.1 1), .ref (u.1 2)])), ((u.1 0), .inl ((u.2.1 0), 17, .inl (fun _ => 0))), ((u.1 1), .inl ((u.2.1 1), 17, .inl (fun _ => 0))), ((u.1 2), .inl ((u.2.1 2), 17, .inl (fun _ => 0)))] ∧ va_K (dC, dI) vwCl [((u.2.1 0), .boolean), ((u.2.1 1), .int), ((u.2.1 2), .boolean)] t) (va_A [(h0, .inr (3, [.null, .null, .null]))] sz)) 3 51 (va_A [(h0, .inr (3, [.null, .null, .null]))] sz) := by
  refine Met.ofW (cc := cX3_init) (maxL := 1) (ret := none) (by decide) rfl ?_
  intro p e s m args below meth c s₁ B hml hv
  obtain ⟨rfl, hsz, hP, hK, hD0, hN⟩ := hv
  have hx := B.exec
  have hb := B.bytes
  have hr := B.returns
  have hts := atoms_spec (ws := .code yX3_init cX3_init 1 none :: gw) B.pre
  have hg : ∀ w ∈ gw, w.before _ s = true := fun w h => hts w (List.mem_cons_of_mem _ h)
  have hown : s.vm.findClass RX3 = some m.cls := findClass_of_methodNamed B.named
  have hlocks := B.notSynchronized
  have hin : meth.name = "<init>" := (name_of_methodNamed B.named B.method).1
  subst hsz
  have hD := hD0.self (sz := s.heap.size)
  generalize hAe : va_A [(h0, .inr (3, [.null, .null, .null]))] s.heap.size = A at hD ⊢
  have hA : ∀ q : Nat, s.heap.size ≤ q → A q := fun q h => by rw [← hAe]; exact Or.inr h
  have hS : va_S A s.heap s.heap [] := va_S.rf
  have hP : va_P (dC, dI) vwCl [(h0, .inr (3, [.null, .null, .null]))] s.heap := hP
  have hl := lv_entry ([.ref h0]) (n := 1) (Nat.le_of_ble_eq_true rfl)
  rw [lg_entry_eq]
  generalize (lg_sl ([.ref h0]) ++ List.replicate (1 - (lg_sl ([.ref h0])).length) Slot.unset).toArray = ls at hl ⊢
  have hl : lv_has ls 1 [(0, .ref h0)] := hl
  refine lv_aload_n hx hb dX3_init_0 rfl (lv_at hl 0 rfl) ?_
  refine W.objInit hx hb hown (hg _ gm_methodLink_RX3_3_objectInit) (hg _ gm_instanceMethod_objectInit) (hg _ gm_code_objectInit_oi_1_none) rfl (by rw [hml]; exact hl.1) rfl dX3_init_1 (Nat.le_of_ble_eq_true rfl) (Nat.le_of_ble_eq_true rfl) ?_
  refine W.eq (g2 := F0 m 4 ls []) rfl ?_
  refine lv_aload_n hx hb dX3_init_4 rfl (lv_at hl 0 rfl) ?_
  refine lv_bipush (v := 17) hx hb dX3_init_5 (by decide) ?_
  refine va_newa (atype := .boolean) (ty := .boolean) (N' := 17) (a0 := (17, .inl (fun _ => 0))) hx hb (hg _ gm_arrayClass_boolean) rfl hK hP hD hS hA (fun _ => rfl) (by decide) (by decide) (Nat.le_of_ble_eq_true rfl) (Nat.le_of_ble_eq_true rfl) (Nat.le_of_ble_eq_true rfl) dX3_init_7 (fun q_1 k_2 H hK hP hD hS => ?_)
  have hK : va_K (dC, dI) vwCl [(k_2, .boolean)] s := hK
  have hP : va_P (dC, dI) vwCl [(h0, .inr (3, [.null, .null, .null])), (q_1, .inl (k_2, 17, .inl (fun _ => 0)))] H := hP
  have hD : va_D A [(h0, .inr (3, [.null, .null, .null])), (q_1, .inl (k_2, 17, .inl (fun _ => 0)))] := hD
  refine W.widen (k := 1) (n := 17) (Nat.le_of_ble_eq_true rfl) (Nat.le_of_ble_eq_true rfl) ?_
  refine va_putF (D := (dC, dI)) (ci := 3) (v := .ref q_1) (ty := .array .boolean) (C := RX3) (T := TX3) (N := 3) hx hb hg gb_3 tyX3 tyX3_ok nmX3 hown hK hP hD hS 0 rfl rfl 0 (by decide) (hg _ gm_fieldLink_RX3_11_ErrandGuild_Handlers_there_AZ_) (fun _ h9 => h9) rfl hin rfl (by decide +kernel) rfl rfl (Nat.le_of_ble_eq_true rfl) dX3_init_9 (fun H locs hP hD hS => ?_)
  have hP : va_P (dC, dI) vwCl [(h0, .inr (3, [.ref q_1, .null, .null])), (q_1, .inl (k_2, 17, .inl (fun _ => 0)))] H := hP
  have hD : va_D A [(h0, .inr (3, [.ref q_1, .null, .null])), (q_1, .inl (k_2, 17, .inl (fun _ => 0)))] := hD
  refine lv_aload_n hx hb dX3_init_12 rfl (lv_at hl 0 rfl) ?_
  refine lv_bipush (v := 17) hx hb dX3_init_13 (by decide) ?_
  refine va_newa (atype := .int) (ty := .int) (N' := 17) (a0 := (17, .inl (fun _ => 0))) hx hb (hg _ gm_arrayClass_int) rfl hK hP hD hS hA (fun _ => rfl) (by decide) (by decide) (Nat.le_of_ble_eq_true rfl) (Nat.le_of_ble_eq_true rfl) (Nat.le_of_ble_eq_true rfl) dX3_init_15 (fun q_3 k_4 H hK hP hD hS => ?_)
  have hK : va_K (dC, dI) vwCl [(k_2, .boolean), (k_4, .int)] s := hK
  have hP : va_P (dC, dI) vwCl [(h0, .inr (3, [.ref q_1, .null, .null])), (q_1, .inl (k_2, 17, .inl (fun _ => 0))), (q_3, .inl (k_4, 17, .inl (fun _ => 0)))] H := hP
  have hD : va_D A [(h0, .inr (3, [.ref q_1, .null, .null])), (q_1, .inl (k_2, 17, .inl (fun _ => 0))), (q_3, .inl (k_4, 17, .inl (fun _ => 0)))] := hD
  refine W.widen (k := 2) (n := 34) (Nat.le_of_ble_eq_true rfl) (Nat.le_of_ble_eq_true rfl) ?_
  refine va_putF (D := (dC, dI)) (ci := 3) (v := .ref q_3) (ty := .array .int) (C := RX3) (T := TX3) (N := 3) hx hb hg gb_3 tyX3 tyX3_ok nmX3 hown hK hP hD hS 0 rfl rfl 1 (by decide) (hg _ gm_fieldLink_RX3_15_ErrandGuild_Handlers_effects_AI_) (fun _ h9 => h9) rfl hin rfl (by decide +kernel) rfl rfl (Nat.le_of_ble_eq_true rfl) dX3_init_17 (fun H locs hP hD hS => ?_)
  have hP : va_P (dC, dI) vwCl [(h0, .inr (3, [.ref q_1, .ref q_3, .null])), (q_1, .inl (k_2, 17, .inl (fun _ => 0))), (q_3, .inl (k_4, 17, .inl (fun _ => 0)))] H := hP
  have hD : va_D A [(h0, .inr (3, [.ref q_1, .ref q_3, .null])), (q_1, .inl (k_2, 17, .inl (fun _ => 0))), (q_3, .inl (k_4, 17, .inl (fun _ => 0)))] := hD
  refine lv_aload_n hx hb dX3_init_20 rfl (lv_at hl 0 rfl) ?_
  refine lv_bipush (v := 17) hx hb dX3_init_21 (by decide) ?_
  refine va_newa (atype := .boolean) (ty := .boolean) (N' := 17) (a0 := (17, .inl (fun _ => 0))) hx hb (hg _ gm_arrayClass_boolean) rfl hK hP hD hS hA (fun _ => rfl) (by decide) (by decide) (Nat.le_of_ble_eq_true rfl) (Nat.le_of_ble_eq_true rfl) (Nat.le_of_ble_eq_true rfl) dX3_init_23 (fun q_5 k_6 H hK hP hD hS => ?_)
  have hK : va_K (dC, dI) vwCl [(k_2, .boolean), (k_4, .int), (k_6, .boolean)] s := hK
  have hP : va_P (dC, dI) vwCl [(h0, .inr (3, [.ref q_1, .ref q_3, .null])), (q_1, .inl (k_2, 17, .inl (fun _ => 0))), (q_3, .inl (k_4, 17, .inl (fun _ => 0))), (q_5, .inl (k_6, 17, .inl (fun _ => 0)))] H := hP
  have hD : va_D A [(h0, .inr (3, [.ref q_1, .ref q_3, .null])), (q_1, .inl (k_2, 17, .inl (fun _ => 0))), (q_3, .inl (k_4, 17, .inl (fun _ => 0))), (q_5, .inl (k_6, 17, .inl (fun _ => 0)))] := hD
  refine W.widen (k := 3) (n := 51) (Nat.le_of_ble_eq_true rfl) (Nat.le_of_ble_eq_true rfl) ?_
  refine va_putF (D := (dC, dI)) (ci := 3) (v := .ref q_5) (ty := .array .boolean) (C := RX3) (T := TX3) (N := 3) hx hb hg gb_3 tyX3 tyX3_ok nmX3 hown hK hP hD hS 0 rfl rfl 2 (by decide) (hg _ gm_fieldLink_RX3_19_ErrandGuild_Handlers_throwing_AZ_) (fun _ h9 => h9) rfl hin rfl (by decide +kernel) rfl rfl (Nat.le_of_ble_eq_true rfl) dX3_init_25 (fun H locs hP hD hS => ?_)
  have hP : va_P (dC, dI) vwCl [(h0, .inr (3, [.ref q_1, .ref q_3, .ref q_5])), (q_1, .inl (k_2, 17, .inl (fun _ => 0))), (q_3, .inl (k_4, 17, .inl (fun _ => 0))), (q_5, .inl (k_6, 17, .inl (fun _ => 0)))] H := hP
  have hD : va_D A [(h0, .inr (3, [.ref q_1, .ref q_3, .ref q_5])), (q_1, .inl (k_2, 17, .inl (fun _ => 0))), (q_3, .inl (k_4, 17, .inl (fun _ => 0))), (q_5, .inl (k_6, 17, .inl (fun _ => 0)))] := hD
  have hP9 := hP.sub (ws' := [(h0, .inr (3, [.ref q_1, .ref q_3, .ref q_5])), (q_1, .inl (k_2, 17, .inl (fun _ => 0))), (q_3, .inl (k_4, 17, .inl (fun _ => 0))), (q_5, .inl (k_6, 17, .inl (fun _ => 0)))]) [0, 1, 2, 3] rfl
  have hD9 := hD.sub (ws' := [(h0, .inr (3, [.ref q_1, .ref q_3, .ref q_5])), (q_1, .inl (k_2, 17, .inl (fun _ => 0))), (q_3, .inl (k_4, 17, .inl (fun _ => 0))), (q_5, .inl (k_6, 17, .inl (fun _ => 0)))]) [0, 1, 2, 3] (by decide) rfl
  have hK9 := hK.sub (tys' := [(k_2, .boolean), (k_4, .int), (k_6, .boolean)]) [0, 1, 2] rfl
  exact W.vret hx hb hr (fun t ht hW => ⟨⟨((fun k => ([q_1, q_3, q_5] : List Nat).getD k 0), (fun k => ([k_2, k_4, k_6] : List ClassId).getD k (dC 0)), (fun _ => (fun _ => 0)), (fun _ => (fun _ => none))), rfl, trivial, by rw [ht]; exact hP9, hD9, va_K.moved hW.alike hK9⟩, hS.F ht⟩) hS.2.2 dX3_init_28

set_option maxHeartbeats 4000000 in
set_option maxRecDepth 100000 in
theorem c_X5_init (l : Launch) (dC : Nat → ClassId) (dI : Nat → Nat → Nat) (h0 : Nat) (v1 : Int32) (sz : Nat)  : Met l yX5_init (.code yX5_init cX5_init 2 none :: gw) ({ frames := 2, cells := 2, slots := 19, locals := 41 }) (va_Pc [.ref h0, .int v1] (fun U => U.heap.size = sz ∧ va_P (dC, dI) vwCl [(h0, .inr (5, [.int 0, .null]))] U.heap ∧ va_K (dC, dI) vwCl [] U ∧ va_D (fun _ => True) [(h0, .inr (5, [.int 0, .null]))] ∧ nx U)) (va_Qv (fun (u : wS) => True) (fun u t => va_P (dC, dI) vwCl [(h0, .inr (5, [.int v1, .ref (u.1 0)])), ((u.1 0), .inr (0, [.int (u.2.2.1 0 0), .ref (u.1 1), .int 0]))] t.heap ∧ va_D (va_A [(h0, .inr (5, [.int 0, .null]))] sz) [(h0, .inr (5, [.int v1, .ref (u.1 0)])), ((u.1 0), .inr (0, [.int (u.2.2.1 0 0), .ref (u.1 1), .int 0]))] ∧ va_K (dC, dI) vwCl [] t) (va_A [(h0, .inr (5, [.int 0, .null]))] sz)) 2 19 (va_A [(h0, .inr (5, [.int 0, .null]))] sz) := by
  refine Met.ofW (cc := cX5_init) (maxL := 2) (ret := none) (by decide) rfl ?_
  intro p e s m args below meth c s₁ B hml hv
  obtain ⟨rfl, hsz, hP, hK, hD0, hN⟩ := hv
  have hx := B.exec
  have hb := B.bytes
  have hr := B.returns
  have hts := atoms_spec (ws := .code yX5_init cX5_init 2 none :: gw) B.pre
  have hg : ∀ w ∈ gw, w.before _ s = true := fun w h => hts w (List.mem_cons_of_mem _ h)
  have hown : s.vm.findClass RX5 = some m.cls := findClass_of_methodNamed B.named
  have hlocks := B.notSynchronized
  have hin : meth.name = "<init>" := (name_of_methodNamed B.named B.method).1
  subst hsz
  have hD := hD0.self (sz := s.heap.size)
  generalize hAe : va_A [(h0, .inr (5, [.int 0, .null]))] s.heap.size = A at hD ⊢
  have hA : ∀ q : Nat, s.heap.size ≤ q → A q := fun q h => by rw [← hAe]; exact Or.inr h
  have hS : va_S A s.heap s.heap [] := va_S.rf
  have hP : va_P (dC, dI) vwCl [(h0, .inr (5, [.int 0, .null]))] s.heap := hP
  have hl := lv_entry ([.ref h0, .int v1]) (n := 2) (Nat.le_of_ble_eq_true rfl)
  rw [lg_entry_eq]
  generalize (lg_sl ([.ref h0, .int v1]) ++ List.replicate (2 - (lg_sl ([.ref h0, .int v1])).length) Slot.unset).toArray = ls at hl ⊢
  have hl : lv_has ls 2 [(0, .ref h0), (1, .int v1)] := hl
  refine lv_aload_n hx hb dX5_init_0 rfl (lv_at hl 0 rfl) ?_
  refine W.objInit hx hb hown (hg _ gm_methodLink_RX5_3_objectInit) (hg _ gm_instanceMethod_objectInit) (hg _ gm_code_objectInit_oi_1_none) rfl (by rw [hml]; exact hl.1) rfl dX5_init_1 (Nat.le_of_ble_eq_true rfl) (Nat.le_of_ble_eq_true rfl) ?_
  refine W.eq (g2 := F0 m 4 ls []) rfl ?_
  refine lv_aload_n hx hb dX5_init_4 rfl (lv_at hl 0 rfl) ?_
  refine lv_iload_n hx hb dX5_init_5 rfl (lv_at hl 1 rfl) ?_
  refine va_putF (D := (dC, dI)) (ci := 5) (v := .int v1) (ty := .int) (C := RX5) (T := TX5) (N := 2) hx hb hg gb_5 tyX5 tyX5_ok nmX5 hown hK hP hD hS 0 rfl rfl 0 (by decide) (hg _ gm_fieldLink_RX5_9_ErrandGuild_Ledger_limit_I_) (fun _ h9 => h9) rfl hin rfl (by decide +kernel) rfl rfl (Nat.le_of_ble_eq_true rfl) dX5_init_6 (fun H locs hP hD hS => ?_)
  have hP : va_P (dC, dI) vwCl [(h0, .inr (5, [.int v1, .null]))] H := hP
  have hD : va_D A [(h0, .inr (5, [.int v1, .null]))] := hD
  refine lv_aload_n hx hb dX5_init_9 rfl (lv_at hl 0 rfl) ?_
  refine va_new (ci := 0) (fs := [.int 0, .null, .int 0]) (C := RX0) (T := TX0) (N := 3) hx hb hg gb_0 tyX0 tyX0_ok hown (hg _ gm_classLink_RX5_15_RX0) (hg _ gm_instantiable_RX0_3) (hg _ gm_initialized_RX0) hK hP hD hS hA rfl df_X0 (Nat.le_of_ble_eq_true rfl) (Nat.le_of_ble_eq_true rfl) dX5_init_10 (fun q_1 H hP hD hS => ?_)
  have hP : va_P (dC, dI) vwCl [(h0, .inr (5, [.int v1, .null])), (q_1, .inr (0, [.int 0, .null, .int 0]))] H := hP
  have hD : va_D A [(h0, .inr (5, [.int v1, .null])), (q_1, .inr (0, [.int 0, .null, .int 0]))] := hD
  refine W.widen (k := 1) (n := 3) (Nat.le_of_ble_eq_true rfl) (Nat.le_of_ble_eq_true rfl) ?_
  refine lv_dup hx hb dX5_init_13 rfl ?_
  refine lv_iconst (v := 4) hx hb dX5_init_14 (by decide) ?_
  refine lv_iload_n hx hb dX5_init_15 rfl (lv_at hl 1 rfl) ?_
  refine lv_imul hx hb dX5_init_16 ?_
  refine lv_topi (fun z_2 ez_2 => ?_)
  have hPc := hP.sub (ws' := [(q_1, .inr (0, [.int 0, .null, .int 0]))]) [1] rfl
  have hDc := hD.sub (ws' := [(q_1, .inr (0, [.int 0, .null, .int 0]))]) [1] (by decide) rfl
  have hKc := hK.sub (tys' := []) [] rfl
  have hFc := va_free (wc := [(q_1, .inr (0, [.int 0, .null, .int 0]))]) hD hS hA [1] rfl
  refine va_callv (va_runI (As := [.int z_2]) (rest := [.ref q_1, .ref h0]) ⟨hx, hb, hml, hown, hg⟩ (c_X0_init l dC dI q_1 z_2 H.size ) (cwI 1 hg (gw_c gm_code_yX0_init_cX0_init_2_none) rfl rfl rfl (hg _ gm_initialized_RX0) (hg _ gm_methodLink_RX5_17_yX0_init) (hg _ gm_instanceMethod_yX0_init) rfl (by decide +kernel) ⟨Nat.le_of_ble_eq_true rfl, Nat.le_of_ble_eq_true rfl⟩) ⟨fun a U g mk q => by obtain ⟨q0, q1, qP, qK, qD, qN⟩ := q; exact ⟨q0, q1, qP, va_K.moved (u := U) (U := U.calling g mk a) (Vm.Alike.refl U.vm) qK, qD, nx_same (u := U) (U := U.calling g mk a) rfl qN⟩, fun U hU hW => ⟨rfl, by rw [hU], by rw [hU]; exact hPc, va_K.moved hW.alike hKc, hDc.weaken (fun _ _ _ _ => trivial), nx_warm hW hN⟩⟩ rfl rfl hl.1 rfl (lv_room (Nat.le_of_ble_eq_true rfl)) dX5_init_17 ⟨Nat.le_of_ble_eq_true rfl, Nat.le_of_ble_eq_true rfl⟩) hS (fun q _ h => hFc q h) hFc (fun u_4 t H1 locs ht hvm hw hB hz1 hk1 hS => ?_)
  obtain ⟨ad_5, ac_6, af_7, ag_8⟩ := u_4
  obtain ⟨hP1, hD1, hK1⟩ := hB
  rw [ht] at hP1
  have hK1 := va_K.moved hvm.symm hK1
  obtain ⟨hP, hD⟩ := va_join (wr := [(h0, .inr (5, [.int v1, .null]))]) (w1 := [(q_1, .inr (0, [.int z_2, .ref (ad_5 0), .int 0]))]) hP hD [1] [0] rfl rfl (by decide) (by decide +kernel) hk1 hFc hP1 hD1
  generalize H1 = H at hP hS ⊢
  have hP : va_P (dC, dI) vwCl [(h0, .inr (5, [.int v1, .null])), (q_1, .inr (0, [.int z_2, .ref (ad_5 0), .int 0]))] H := hP
  have hD : va_D A [(h0, .inr (5, [.int v1, .null])), (q_1, .inr (0, [.int z_2, .ref (ad_5 0), .int 0]))] := hD
  refine W.widen (k := 2) (n := 19) (Nat.le_of_ble_eq_true rfl) (Nat.le_of_ble_eq_true rfl) ?_
  refine va_putF (D := (dC, dI)) (ci := 5) (v := .ref q_1) (ty := .object "ErrandGuild$Cells") (C := RX5) (T := TX5) (N := 2) hx hb hg gb_5 tyX5 tyX5_ok nmX5 hown hK hP hD hS 0 rfl rfl 1 (by decide) (hg _ gm_fieldLink_RX5_20_ErrandGuild_Ledger_cells_LErrandGuild_Cells_) (fun _ h9 => h9) rfl hin rfl (by decide +kernel) rfl rfl (Nat.le_of_ble_eq_true rfl) dX5_init_20 (fun H locs hP hD hS => ?_)
  have hP : va_P (dC, dI) vwCl [(h0, .inr (5, [.int v1, .ref q_1])), (q_1, .inr (0, [.int z_2, .ref (ad_5 0), .int 0]))] H := hP
  have hD : va_D A [(h0, .inr (5, [.int v1, .ref q_1])), (q_1, .inr (0, [.int z_2, .ref (ad_5 0), .int 0]))] := hD
  have hP9 := hP.sub (ws' := [(h0, .inr (5, [.int v1, .ref q_1])), (q_1, .inr (0, [.int z_2, .ref (ad_5 0), .int 0]))]) [0, 1] rfl
  have hD9 := hD.sub (ws' := [(h0, .inr (5, [.int v1, .ref q_1])), (q_1, .inr (0, [.int z_2, .ref (ad_5 0), .int 0]))]) [0, 1] (by decide) rfl
  have hK9 := hK.sub (tys' := []) [] rfl
  exact W.vret hx hb hr (fun t ht hW => ⟨⟨((fun k => ([q_1, (ad_5 0)] : List Nat).getD k 0), (fun _ => (dC 0)), (fun k => ([(fun _ => z_2)] : List (Nat → Int32)).getD k (fun _ => 0)), (fun _ => (fun _ => none))), rfl, trivial, by rw [ht]; exact hP9, hD9, va_K.moved hW.alike hK9⟩, hS.F ht⟩) hS.2.2 dX5_init_23

set_option maxHeartbeats 4000000 in
set_option maxRecDepth 100000 in
theorem c_X4_init (l : Launch) (dC : Nat → ClassId) (dI : Nat → Nat → Nat) (h0 : Nat) (sz : Nat)  : Met l yX4_init (.code yX4_init cX4_init 1 none :: gw) ({ frames := 1, cells := 0, slots := 0, locals := 20 }) (va_Pc [.ref h0] (fun U => U.heap.size = sz ∧ va_P (dC, dI) vwCl [(h0, .inr (4, [.null, .null, .int 0, .int 0, .int 0, .null, .null, .null, .int 0]))] U.heap ∧ va_K (dC, dI) vwCl [] U ∧ va_D (fun _ => True) [(h0, .inr (4, [.null, .null, .int 0, .int 0, .int 0, .null, .null, .null, .int 0]))] ∧ nx U)) (va_Qv (fun (u : Unit) => True) (fun _ t => va_P (dC, dI) vwCl [(h0, .inr (4, [.null, .null, .int 0, .int 0, .int 0, .null, .null, .null, .int 0]))] t.heap ∧ va_D (va_A [(h0, .inr (4, [.null, .null, .int 0, .int 0, .int 0, .null, .null, .null, .int 0]))] sz) [(h0, .inr (4, [.null, .null, .int 0, .int 0, .int 0, .null, .null, .null, .int 0]))]) (va_A [(h0, .inr (4, [.null, .null, .int 0, .int 0, .int 0, .null, .null, .null, .int 0]))] sz)) 0 0 (va_A [(h0, .inr (4, [.null, .null, .int 0, .int 0, .int 0, .null, .null, .null, .int 0]))] sz) := by
  refine Met.ofW (cc := cX4_init) (maxL := 1) (ret := none) (by decide) rfl ?_
  intro p e s m args below meth c s₁ B hml hv
  obtain ⟨rfl, hsz, hP, hK, hD0, hN⟩ := hv
  have hx := B.exec
  have hb := B.bytes
  have hr := B.returns
  have hts := atoms_spec (ws := .code yX4_init cX4_init 1 none :: gw) B.pre
  have hg : ∀ w ∈ gw, w.before _ s = true := fun w h => hts w (List.mem_cons_of_mem _ h)
  have hown : s.vm.findClass RX4 = some m.cls := findClass_of_methodNamed B.named
  have hlocks := B.notSynchronized
  have hin : meth.name = "<init>" := (name_of_methodNamed B.named B.method).1
  subst hsz
  have hD := hD0.self (sz := s.heap.size)
  generalize hAe : va_A [(h0, .inr (4, [.null, .null, .int 0, .int 0, .int 0, .null, .null, .null, .int 0]))] s.heap.size = A at hD ⊢
  have hA : ∀ q : Nat, s.heap.size ≤ q → A q := fun q h => by rw [← hAe]; exact Or.inr h
  have hS : va_S A s.heap s.heap [] := va_S.rf
  have hP : va_P (dC, dI) vwCl [(h0, .inr (4, [.null, .null, .int 0, .int 0, .int 0, .null, .null, .null, .int 0]))] s.heap := hP
  have hl := lv_entry ([.ref h0]) (n := 1) (Nat.le_of_ble_eq_true rfl)
  rw [lg_entry_eq]
  generalize (lg_sl ([.ref h0]) ++ List.replicate (1 - (lg_sl ([.ref h0])).length) Slot.unset).toArray = ls at hl ⊢
  have hl : lv_has ls 1 [(0, .ref h0)] := hl
  refine lv_aload_n hx hb dX4_init_0 rfl (lv_at hl 0 rfl) ?_
  refine W.objInit hx hb hown (hg _ gm_methodLink_RX4_3_objectInit) (hg _ gm_instanceMethod_objectInit) (hg _ gm_code_objectInit_oi_1_none) rfl (by rw [hml]; exact hl.1) rfl dX4_init_1 (Nat.le_of_ble_eq_true rfl) (Nat.le_of_ble_eq_true rfl) ?_
  refine W.eq (g2 := F0 m 4 ls []) rfl ?_
  have hP9 := hP.sub (ws' := [(h0, .inr (4, [.null, .null, .int 0, .int 0, .int 0, .null, .null, .null, .int 0]))]) [0] rfl
  have hD9 := hD.sub (ws' := [(h0, .inr (4, [.null, .null, .int 0, .int 0, .int 0, .null, .null, .null, .int 0]))]) [0] (by decide) rfl
  exact W.vret hx hb hr (fun t ht hW => ⟨⟨(), rfl, trivial, by rw [ht]; exact hP9, hD9⟩, hS.F ht⟩) hS.2.2 dX4_init_4

set_option maxHeartbeats 4000000 in
set_option maxRecDepth 100000 in
theorem c_X2_init (l : Launch) (dC : Nat → ClassId) (dI : Nat → Nat → Nat) (h0 : Nat) (sz : Nat)  : Met l yX2_init (.code yX2_init cX2_init 1 none :: gw) ({ frames := 1, cells := 0, slots := 0, locals := 20 }) (va_Pc [.ref h0] (fun U => U.heap.size = sz ∧ va_P (dC, dI) vwCl [(h0, .inr (2, [.int 0, .int 0, .int 0, .int 0, .int 0]))] U.heap ∧ va_K (dC, dI) vwCl [] U ∧ va_D (fun _ => True) [(h0, .inr (2, [.int 0, .int 0, .int 0, .int 0, .int 0]))] ∧ nx U)) (va_Qv (fun (u : Unit) => True) (fun _ t => va_P (dC, dI) vwCl [(h0, .inr (2, [.int 0, .int 0, .int 0, .int 0, .int 0]))] t.heap ∧ va_D (va_A [(h0, .inr (2, [.int 0, .int 0, .int 0, .int 0, .int 0]))] sz) [(h0, .inr (2, [.int 0, .int 0, .int 0, .int 0, .int 0]))]) (va_A [(h0, .inr (2, [.int 0, .int 0, .int 0, .int 0, .int 0]))] sz)) 0 0 (va_A [(h0, .inr (2, [.int 0, .int 0, .int 0, .int 0, .int 0]))] sz) := by
  refine Met.ofW (cc := cX2_init) (maxL := 1) (ret := none) (by decide) rfl ?_
  intro p e s m args below meth c s₁ B hml hv
  obtain ⟨rfl, hsz, hP, hK, hD0, hN⟩ := hv
  have hx := B.exec
  have hb := B.bytes
  have hr := B.returns
  have hts := atoms_spec (ws := .code yX2_init cX2_init 1 none :: gw) B.pre
  have hg : ∀ w ∈ gw, w.before _ s = true := fun w h => hts w (List.mem_cons_of_mem _ h)
  have hown : s.vm.findClass RX2 = some m.cls := findClass_of_methodNamed B.named
  have hlocks := B.notSynchronized
  have hin : meth.name = "<init>" := (name_of_methodNamed B.named B.method).1
  subst hsz
  have hD := hD0.self (sz := s.heap.size)
  generalize hAe : va_A [(h0, .inr (2, [.int 0, .int 0, .int 0, .int 0, .int 0]))] s.heap.size = A at hD ⊢
  have hA : ∀ q : Nat, s.heap.size ≤ q → A q := fun q h => by rw [← hAe]; exact Or.inr h
  have hS : va_S A s.heap s.heap [] := va_S.rf
  have hP : va_P (dC, dI) vwCl [(h0, .inr (2, [.int 0, .int 0, .int 0, .int 0, .int 0]))] s.heap := hP
  have hl := lv_entry ([.ref h0]) (n := 1) (Nat.le_of_ble_eq_true rfl)
  rw [lg_entry_eq]
  generalize (lg_sl ([.ref h0]) ++ List.replicate (1 - (lg_sl ([.ref h0])).length) Slot.unset).toArray = ls at hl ⊢
  have hl : lv_has ls 1 [(0, .ref h0)] := hl
  refine lv_aload_n hx hb dX2_init_0 rfl (lv_at hl 0 rfl) ?_
  refine W.objInit hx hb hown (hg _ gm_methodLink_RX2_3_objectInit) (hg _ gm_instanceMethod_objectInit) (hg _ gm_code_objectInit_oi_1_none) rfl (by rw [hml]; exact hl.1) rfl dX2_init_1 (Nat.le_of_ble_eq_true rfl) (Nat.le_of_ble_eq_true rfl) ?_
  refine W.eq (g2 := F0 m 4 ls []) rfl ?_
  have hP9 := hP.sub (ws' := [(h0, .inr (2, [.int 0, .int 0, .int 0, .int 0, .int 0]))]) [0] rfl
  have hD9 := hD.sub (ws' := [(h0, .inr (2, [.int 0, .int 0, .int 0, .int 0, .int 0]))]) [0] (by decide) rfl
  exact W.vret hx hb hr (fun t ht hW => ⟨⟨(), rfl, trivial, by rw [ht]; exact hP9, hD9⟩, hS.F ht⟩) hS.2.2 dX2_init_4

set_option maxHeartbeats 4000000 in
set_option maxRecDepth 100000 in
theorem c_X6_init (l : Launch) (dC : Nat → ClassId) (dI : Nat → Nat → Nat) (h0 : Nat) (sz : Nat)  : Met l yX6_init (.code yX6_init cX6_init 1 none :: gw) ({ frames := 1, cells := 3, slots := 24, locals := 20 }) (va_Pc [.ref h0] (fun U => U.heap.size = sz ∧ va_P (dC, dI) vwCl [(h0, .inr (6, [.null, .null, .null]))] U.heap ∧ va_K (dC, dI) vwCl [] U ∧ va_D (fun _ => True) [(h0, .inr (6, [.null, .null, .null]))] ∧ nx U)) (va_Qv (fun (u : wS) => True) (fun u t => va_P (dC, dI) vwCl [(h0, .inr (6, [.ref (u.1 0), .ref (u.1 1), .ref (u.1 2)])), ((u.1 0), .inl ((u.2.1 0), 8, .inl (fun _ => 0))), ((u.1 2), .inl ((u.2.1 2), 8, .inl (fun _ => 0)))] t.heap ∧ va_D (va_A [(h0, .inr (6, [.null, .null, .null]))] sz) [(h0, .inr (6, [.ref (u.1 0), .ref (u.1 1), .ref (u.1 2)])), ((u.1 0), .inl ((u.2.1 0), 8, .inl (fun _ => 0))), ((u.1 2), .inl ((u.2.1 2), 8, .inl (fun _ => 0)))] ∧ va_K (dC, dI) vwCl [((u.2.1 0), .boolean), ((u.2.1 2), .int)] t) (va_A [(h0, .inr (6, [.null, .null, .null]))] sz)) 3 24 (va_A [(h0, .inr (6, [.null, .null, .null]))] sz) := by
  refine Met.ofW (cc := cX6_init) (maxL := 1) (ret := none) (by decide) rfl ?_
  intro p e s m args below meth c s₁ B hml hv
  obtain ⟨rfl, hsz, hP, hK, hD0, hN⟩ := hv
  have hx := B.exec
  have hb := B.bytes
  have hr := B.returns
  have hts := atoms_spec (ws := .code yX6_init cX6_init 1 none :: gw) B.pre
  have hg : ∀ w ∈ gw, w.before _ s = true := fun w h => hts w (List.mem_cons_of_mem _ h)
  have hown : s.vm.findClass RX6 = some m.cls := findClass_of_methodNamed B.named
  have hlocks := B.notSynchronized
  have hin : meth.name = "<init>" := (name_of_methodNamed B.named B.method).1
  subst hsz
  have hD := hD0.self (sz := s.heap.size)
  generalize hAe : va_A [(h0, .inr (6, [.null, .null, .null]))] s.heap.size = A at hD ⊢
  have hA : ∀ q : Nat, s.heap.size ≤ q → A q := fun q h => by rw [← hAe]; exact Or.inr h
  have hS : va_S A s.heap s.heap [] := va_S.rf
  have hP : va_P (dC, dI) vwCl [(h0, .inr (6, [.null, .null, .null]))] s.heap := hP
  have hl := lv_entry ([.ref h0]) (n := 1) (Nat.le_of_ble_eq_true rfl)
  rw [lg_entry_eq]
  generalize (lg_sl ([.ref h0]) ++ List.replicate (1 - (lg_sl ([.ref h0])).length) Slot.unset).toArray = ls at hl ⊢
  have hl : lv_has ls 1 [(0, .ref h0)] := hl
  refine lv_aload_n hx hb dX6_init_0 rfl (lv_at hl 0 rfl) ?_
  refine W.objInit hx hb hown (hg _ gm_methodLink_RX6_3_objectInit) (hg _ gm_instanceMethod_objectInit) (hg _ gm_code_objectInit_oi_1_none) rfl (by rw [hml]; exact hl.1) rfl dX6_init_1 (Nat.le_of_ble_eq_true rfl) (Nat.le_of_ble_eq_true rfl) ?_
  refine W.eq (g2 := F0 m 4 ls []) rfl ?_
  refine lv_aload_n hx hb dX6_init_4 rfl (lv_at hl 0 rfl) ?_
  refine lv_bipush (v := 8) hx hb dX6_init_5 (by decide) ?_
  refine va_newa (atype := .boolean) (ty := .boolean) (N' := 8) (a0 := (8, .inl (fun _ => 0))) hx hb (hg _ gm_arrayClass_boolean) rfl hK hP hD hS hA (fun _ => rfl) (by decide) (by decide) (Nat.le_of_ble_eq_true rfl) (Nat.le_of_ble_eq_true rfl) (Nat.le_of_ble_eq_true rfl) dX6_init_7 (fun q_1 k_2 H hK hP hD hS => ?_)
  have hK : va_K (dC, dI) vwCl [(k_2, .boolean)] s := hK
  have hP : va_P (dC, dI) vwCl [(h0, .inr (6, [.null, .null, .null])), (q_1, .inl (k_2, 8, .inl (fun _ => 0)))] H := hP
  have hD : va_D A [(h0, .inr (6, [.null, .null, .null])), (q_1, .inl (k_2, 8, .inl (fun _ => 0)))] := hD
  refine W.widen (k := 1) (n := 8) (Nat.le_of_ble_eq_true rfl) (Nat.le_of_ble_eq_true rfl) ?_
  refine va_putF (D := (dC, dI)) (ci := 6) (v := .ref q_1) (ty := .array .boolean) (C := RX6) (T := TX6) (N := 3) hx hb hg gb_6 tyX6 tyX6_ok nmX6 hown hK hP hD hS 0 rfl rfl 0 (by decide) (hg _ gm_fieldLink_RX6_9_ErrandGuild_Memory_wrote_AZ_) (fun _ h9 => h9) rfl hin rfl (by decide +kernel) rfl rfl (Nat.le_of_ble_eq_true rfl) dX6_init_9 (fun H locs hP hD hS => ?_)
  have hP : va_P (dC, dI) vwCl [(h0, .inr (6, [.ref q_1, .null, .null])), (q_1, .inl (k_2, 8, .inl (fun _ => 0)))] H := hP
  have hD : va_D A [(h0, .inr (6, [.ref q_1, .null, .null])), (q_1, .inl (k_2, 8, .inl (fun _ => 0)))] := hD
  refine lv_aload_n hx hb dX6_init_12 rfl (lv_at hl 0 rfl) ?_
  refine lv_bipush (v := 8) hx hb dX6_init_13 (by decide) ?_
  refine va_newa (atype := .int) (ty := .int) (N' := 8) (a0 := (8, .inl (fun _ => 0))) hx hb (hg _ gm_arrayClass_int) rfl hK hP hD hS hA (fun _ => rfl) (by decide) (by decide) (Nat.le_of_ble_eq_true rfl) (Nat.le_of_ble_eq_true rfl) (Nat.le_of_ble_eq_true rfl) dX6_init_15 (fun q_3 k_4 H hK hP hD hS => ?_)
  have hK : va_K (dC, dI) vwCl [(k_2, .boolean), (k_4, .int)] s := hK
  have hP : va_P (dC, dI) vwCl [(h0, .inr (6, [.ref q_1, .null, .null])), (q_1, .inl (k_2, 8, .inl (fun _ => 0))), (q_3, .inl (k_4, 8, .inl (fun _ => 0)))] H := hP
  have hD : va_D A [(h0, .inr (6, [.ref q_1, .null, .null])), (q_1, .inl (k_2, 8, .inl (fun _ => 0))), (q_3, .inl (k_4, 8, .inl (fun _ => 0)))] := hD
  refine W.widen (k := 2) (n := 16) (Nat.le_of_ble_eq_true rfl) (Nat.le_of_ble_eq_true rfl) ?_
  refine va_putF (D := (dC, dI)) (ci := 6) (v := .ref q_3) (ty := .array .int) (C := RX6) (T := TX6) (N := 3) hx hb hg gb_6 tyX6 tyX6_ok nmX6 hown hK hP hD hS 0 rfl rfl 1 (by decide) (hg _ gm_fieldLink_RX6_15_ErrandGuild_Memory_written_AI_) (fun _ h9 => h9) rfl hin rfl (by decide +kernel) rfl rfl (Nat.le_of_ble_eq_true rfl) dX6_init_17 (fun H locs hP hD hS => ?_)
  have hP : va_P (dC, dI) vwCl [(h0, .inr (6, [.ref q_1, .ref q_3, .null])), (q_1, .inl (k_2, 8, .inl (fun _ => 0))), (q_3, .inl (k_4, 8, .inl (fun _ => 0)))] H := hP
  have hD : va_D A [(h0, .inr (6, [.ref q_1, .ref q_3, .null])), (q_1, .inl (k_2, 8, .inl (fun _ => 0))), (q_3, .inl (k_4, 8, .inl (fun _ => 0)))] := hD
  refine lv_aload_n hx hb dX6_init_20 rfl (lv_at hl 0 rfl) ?_
  refine lv_bipush (v := 8) hx hb dX6_init_21 (by decide) ?_
  refine va_newa (atype := .int) (ty := .int) (N' := 8) (a0 := (8, .inl (fun _ => 0))) hx hb (hg _ gm_arrayClass_int) rfl hK hP hD hS hA (fun _ => rfl) (by decide) (by decide) (Nat.le_of_ble_eq_true rfl) (Nat.le_of_ble_eq_true rfl) (Nat.le_of_ble_eq_true rfl) dX6_init_23 (fun q_5 k_6 H hK hP hD hS => ?_)
  have hK : va_K (dC, dI) vwCl [(k_2, .boolean), (k_4, .int), (k_6, .int)] s := hK
  have hP : va_P (dC, dI) vwCl [(h0, .inr (6, [.ref q_1, .ref q_3, .null])), (q_1, .inl (k_2, 8, .inl (fun _ => 0))), (q_3, .inl (k_4, 8, .inl (fun _ => 0))), (q_5, .inl (k_6, 8, .inl (fun _ => 0)))] H := hP
  have hD : va_D A [(h0, .inr (6, [.ref q_1, .ref q_3, .null])), (q_1, .inl (k_2, 8, .inl (fun _ => 0))), (q_3, .inl (k_4, 8, .inl (fun _ => 0))), (q_5, .inl (k_6, 8, .inl (fun _ => 0)))] := hD
  refine W.widen (k := 3) (n := 24) (Nat.le_of_ble_eq_true rfl) (Nat.le_of_ble_eq_true rfl) ?_
  refine va_putF (D := (dC, dI)) (ci := 6) (v := .ref q_5) (ty := .array .int) (C := RX6) (T := TX6) (N := 3) hx hb hg gb_6 tyX6 tyX6_ok nmX6 hown hK hP hD hS 0 rfl rfl 2 (by decide) (hg _ gm_fieldLink_RX6_19_ErrandGuild_Memory_given_AI_) (fun _ h9 => h9) rfl hin rfl (by decide +kernel) rfl rfl (Nat.le_of_ble_eq_true rfl) dX6_init_25 (fun H locs hP hD hS => ?_)
  have hP : va_P (dC, dI) vwCl [(h0, .inr (6, [.ref q_1, .ref q_3, .ref q_5])), (q_1, .inl (k_2, 8, .inl (fun _ => 0))), (q_3, .inl (k_4, 8, .inl (fun _ => 0))), (q_5, .inl (k_6, 8, .inl (fun _ => 0)))] H := hP
  have hD : va_D A [(h0, .inr (6, [.ref q_1, .ref q_3, .ref q_5])), (q_1, .inl (k_2, 8, .inl (fun _ => 0))), (q_3, .inl (k_4, 8, .inl (fun _ => 0))), (q_5, .inl (k_6, 8, .inl (fun _ => 0)))] := hD
  have hP9 := hP.sub (ws' := [(h0, .inr (6, [.ref q_1, .ref q_3, .ref q_5])), (q_1, .inl (k_2, 8, .inl (fun _ => 0))), (q_5, .inl (k_6, 8, .inl (fun _ => 0)))]) [0, 1, 3] rfl
  have hD9 := hD.sub (ws' := [(h0, .inr (6, [.ref q_1, .ref q_3, .ref q_5])), (q_1, .inl (k_2, 8, .inl (fun _ => 0))), (q_5, .inl (k_6, 8, .inl (fun _ => 0)))]) [0, 1, 3] (by decide) rfl
  have hK9 := hK.sub (tys' := [(k_2, .boolean), (k_6, .int)]) [0, 2] rfl
  exact W.vret hx hb hr (fun t ht hW => ⟨⟨((fun k => ([q_1, q_3, q_5] : List Nat).getD k 0), (fun k => ([k_2, (dC 0), k_6] : List ClassId).getD k (dC 0)), (fun _ => (fun _ => 0)), (fun _ => (fun _ => none))), rfl, trivial, by rw [ht]; exact hP9, hD9, va_K.moved hW.alike hK9⟩, hS.F ht⟩) hS.2.2 dX6_init_28

set_option maxHeartbeats 4000000 in
set_option maxRecDepth 100000 in
theorem c_X8_init (l : Launch) (dC : Nat → ClassId) (dI : Nat → Nat → Nat) (h0 : Nat) (sz : Nat)  : Met l yX8_init (.code yX8_init cX8_init 1 none :: gw) ({ frames := 1, cells := 6, slots := 144, locals := 20 }) (va_Pc [.ref h0] (fun U => U.heap.size = sz ∧ va_P (dC, dI) vwCl [(h0, .inr (8, [.null, .null, .null, .int 0, .null, .null, .null, .int 0, .int 0]))] U.heap ∧ va_K (dC, dI) vwCl [] U ∧ va_D (fun _ => True) [(h0, .inr (8, [.null, .null, .null, .int 0, .null, .null, .null, .int 0, .int 0]))] ∧ nx U)) (va_Qv (fun (u : wS) => True) (fun u t => va_P (dC, dI) vwCl [(h0, .inr (8, [.ref (u.1 0), .ref (u.1 1), .ref (u.1 2), .int 0, .ref (u.1 3), .ref (u.1 4), .ref (u.1 5), .int 0, .int 0]))] t.heap ∧ va_D (va_A [(h0, .inr (8, [.null, .null, .null, .int 0, .null, .null, .null, .int 0, .int 0]))] sz) [(h0, .inr (8, [.ref (u.1 0), .ref (u.1 1), .ref (u.1 2), .int 0, .ref (u.1 3), .ref (u.1 4), .ref (u.1 5), .int 0, .int 0]))] ∧ va_K (dC, dI) vwCl [] t) (va_A [(h0, .inr (8, [.null, .null, .null, .int 0, .null, .null, .null, .int 0, .int 0]))] sz)) 6 144 (va_A [(h0, .inr (8, [.null, .null, .null, .int 0, .null, .null, .null, .int 0, .int 0]))] sz) := by
  refine Met.ofW (cc := cX8_init) (maxL := 1) (ret := none) (by decide) rfl ?_
  intro p e s m args below meth c s₁ B hml hv
  obtain ⟨rfl, hsz, hP, hK, hD0, hN⟩ := hv
  have hx := B.exec
  have hb := B.bytes
  have hr := B.returns
  have hts := atoms_spec (ws := .code yX8_init cX8_init 1 none :: gw) B.pre
  have hg : ∀ w ∈ gw, w.before _ s = true := fun w h => hts w (List.mem_cons_of_mem _ h)
  have hown : s.vm.findClass RX8 = some m.cls := findClass_of_methodNamed B.named
  have hlocks := B.notSynchronized
  have hin : meth.name = "<init>" := (name_of_methodNamed B.named B.method).1
  subst hsz
  have hD := hD0.self (sz := s.heap.size)
  generalize hAe : va_A [(h0, .inr (8, [.null, .null, .null, .int 0, .null, .null, .null, .int 0, .int 0]))] s.heap.size = A at hD ⊢
  have hA : ∀ q : Nat, s.heap.size ≤ q → A q := fun q h => by rw [← hAe]; exact Or.inr h
  have hS : va_S A s.heap s.heap [] := va_S.rf
  have hP : va_P (dC, dI) vwCl [(h0, .inr (8, [.null, .null, .null, .int 0, .null, .null, .null, .int 0, .int 0]))] s.heap := hP
  have hl := lv_entry ([.ref h0]) (n := 1) (Nat.le_of_ble_eq_true rfl)
  rw [lg_entry_eq]
  generalize (lg_sl ([.ref h0]) ++ List.replicate (1 - (lg_sl ([.ref h0])).length) Slot.unset).toArray = ls at hl ⊢
  have hl : lv_has ls 1 [(0, .ref h0)] := hl
  refine lv_aload_n hx hb dX8_init_0 rfl (lv_at hl 0 rfl) ?_
  refine W.objInit hx hb hown (hg _ gm_methodLink_RX8_3_objectInit) (hg _ gm_instanceMethod_objectInit) (hg _ gm_code_objectInit_oi_1_none) rfl (by rw [hml]; exact hl.1) rfl dX8_init_1 (Nat.le_of_ble_eq_true rfl) (Nat.le_of_ble_eq_true rfl) ?_
  refine W.eq (g2 := F0 m 4 ls []) rfl ?_
  refine lv_aload_n hx hb dX8_init_4 rfl (lv_at hl 0 rfl) ?_
  refine lv_bipush (v := 24) hx hb dX8_init_5 (by decide) ?_
  refine va_newa (atype := .int) (ty := .int) (N' := 24) (a0 := (24, .inl (fun _ => 0))) hx hb (hg _ gm_arrayClass_int) rfl hK hP hD hS hA (fun _ => rfl) (by decide) (by decide) (Nat.le_of_ble_eq_true rfl) (Nat.le_of_ble_eq_true rfl) (Nat.le_of_ble_eq_true rfl) dX8_init_7 (fun q_1 k_2 H hK hP hD hS => ?_)
  have hK : va_K (dC, dI) vwCl [(k_2, .int)] s := hK
  have hP : va_P (dC, dI) vwCl [(h0, .inr (8, [.null, .null, .null, .int 0, .null, .null, .null, .int 0, .int 0])), (q_1, .inl (k_2, 24, .inl (fun _ => 0)))] H := hP
  have hD : va_D A [(h0, .inr (8, [.null, .null, .null, .int 0, .null, .null, .null, .int 0, .int 0])), (q_1, .inl (k_2, 24, .inl (fun _ => 0)))] := hD
  refine W.widen (k := 1) (n := 24) (Nat.le_of_ble_eq_true rfl) (Nat.le_of_ble_eq_true rfl) ?_
  refine va_putF (D := (dC, dI)) (ci := 8) (v := .ref q_1) (ty := .array .int) (C := RX8) (T := TX8) (N := 9) hx hb hg gb_8 tyX8 tyX8_ok nmX8 hown hK hP hD hS 0 rfl rfl 0 (by decide) (hg _ gm_fieldLink_RX8_9_ErrandGuild_Scopes_bindingSlots_AI_) (fun _ h9 => h9) rfl hin rfl (by decide +kernel) rfl rfl (Nat.le_of_ble_eq_true rfl) dX8_init_9 (fun H locs hP hD hS => ?_)
  have hP : va_P (dC, dI) vwCl [(h0, .inr (8, [.ref q_1, .null, .null, .int 0, .null, .null, .null, .int 0, .int 0])), (q_1, .inl (k_2, 24, .inl (fun _ => 0)))] H := hP
  have hD : va_D A [(h0, .inr (8, [.ref q_1, .null, .null, .int 0, .null, .null, .null, .int 0, .int 0])), (q_1, .inl (k_2, 24, .inl (fun _ => 0)))] := hD
  refine lv_aload_n hx hb dX8_init_12 rfl (lv_at hl 0 rfl) ?_
  refine lv_bipush (v := 24) hx hb dX8_init_13 (by decide) ?_
  refine va_newa (atype := .int) (ty := .int) (N' := 24) (a0 := (24, .inl (fun _ => 0))) hx hb (hg _ gm_arrayClass_int) rfl hK hP hD hS hA (fun _ => rfl) (by decide) (by decide) (Nat.le_of_ble_eq_true rfl) (Nat.le_of_ble_eq_true rfl) (Nat.le_of_ble_eq_true rfl) dX8_init_15 (fun q_3 k_4 H hK hP hD hS => ?_)
  have hK : va_K (dC, dI) vwCl [(k_2, .int), (k_4, .int)] s := hK
  have hP : va_P (dC, dI) vwCl [(h0, .inr (8, [.ref q_1, .null, .null, .int 0, .null, .null, .null, .int 0, .int 0])), (q_1, .inl (k_2, 24, .inl (fun _ => 0))), (q_3, .inl (k_4, 24, .inl (fun _ => 0)))] H := hP
  have hD : va_D A [(h0, .inr (8, [.ref q_1, .null, .null, .int 0, .null, .null, .null, .int 0, .int 0])), (q_1, .inl (k_2, 24, .inl (fun _ => 0))), (q_3, .inl (k_4, 24, .inl (fun _ => 0)))] := hD
  refine W.widen (k := 2) (n := 48) (Nat.le_of_ble_eq_true rfl) (Nat.le_of_ble_eq_true rfl) ?_
  refine va_putF (D := (dC, dI)) (ci := 8) (v := .ref q_3) (ty := .array .int) (C := RX8) (T := TX8) (N := 9) hx hb hg gb_8 tyX8 tyX8_ok nmX8 hown hK hP hD hS 0 rfl rfl 1 (by decide) (hg _ gm_fieldLink_RX8_15_ErrandGuild_Scopes_bindingValues_AI_) (fun _ h9 => h9) rfl hin rfl (by decide +kernel) rfl rfl (Nat.le_of_ble_eq_true rfl) dX8_init_17 (fun H locs hP hD hS => ?_)
  have hP : va_P (dC, dI) vwCl [(h0, .inr (8, [.ref q_1, .ref q_3, .null, .int 0, .null, .null, .null, .int 0, .int 0])), (q_1, .inl (k_2, 24, .inl (fun _ => 0))), (q_3, .inl (k_4, 24, .inl (fun _ => 0)))] H := hP
  have hD : va_D A [(h0, .inr (8, [.ref q_1, .ref q_3, .null, .int 0, .null, .null, .null, .int 0, .int 0])), (q_1, .inl (k_2, 24, .inl (fun _ => 0))), (q_3, .inl (k_4, 24, .inl (fun _ => 0)))] := hD
  refine lv_aload_n hx hb dX8_init_20 rfl (lv_at hl 0 rfl) ?_
  refine lv_bipush (v := 24) hx hb dX8_init_21 (by decide) ?_
  refine va_newa (atype := .int) (ty := .int) (N' := 24) (a0 := (24, .inl (fun _ => 0))) hx hb (hg _ gm_arrayClass_int) rfl hK hP hD hS hA (fun _ => rfl) (by decide) (by decide) (Nat.le_of_ble_eq_true rfl) (Nat.le_of_ble_eq_true rfl) (Nat.le_of_ble_eq_true rfl) dX8_init_23 (fun q_5 k_6 H hK hP hD hS => ?_)
  have hK : va_K (dC, dI) vwCl [(k_2, .int), (k_4, .int), (k_6, .int)] s := hK
  have hP : va_P (dC, dI) vwCl [(h0, .inr (8, [.ref q_1, .ref q_3, .null, .int 0, .null, .null, .null, .int 0, .int 0])), (q_1, .inl (k_2, 24, .inl (fun _ => 0))), (q_3, .inl (k_4, 24, .inl (fun _ => 0))), (q_5, .inl (k_6, 24, .inl (fun _ => 0)))] H := hP
  have hD : va_D A [(h0, .inr (8, [.ref q_1, .ref q_3, .null, .int 0, .null, .null, .null, .int 0, .int 0])), (q_1, .inl (k_2, 24, .inl (fun _ => 0))), (q_3, .inl (k_4, 24, .inl (fun _ => 0))), (q_5, .inl (k_6, 24, .inl (fun _ => 0)))] := hD
  refine W.widen (k := 3) (n := 72) (Nat.le_of_ble_eq_true rfl) (Nat.le_of_ble_eq_true rfl) ?_
  refine va_putF (D := (dC, dI)) (ci := 8) (v := .ref q_5) (ty := .array .int) (C := RX8) (T := TX8) (N := 9) hx hb hg gb_8 tyX8 tyX8_ok nmX8 hown hK hP hD hS 0 rfl rfl 2 (by decide) (hg _ gm_fieldLink_RX8_18_ErrandGuild_Scopes_bindingMarks_AI_) (fun _ h9 => h9) rfl hin rfl (by decide +kernel) rfl rfl (Nat.le_of_ble_eq_true rfl) dX8_init_25 (fun H locs hP hD hS => ?_)
  have hP : va_P (dC, dI) vwCl [(h0, .inr (8, [.ref q_1, .ref q_3, .ref q_5, .int 0, .null, .null, .null, .int 0, .int 0])), (q_1, .inl (k_2, 24, .inl (fun _ => 0))), (q_3, .inl (k_4, 24, .inl (fun _ => 0))), (q_5, .inl (k_6, 24, .inl (fun _ => 0)))] H := hP
  have hD : va_D A [(h0, .inr (8, [.ref q_1, .ref q_3, .ref q_5, .int 0, .null, .null, .null, .int 0, .int 0])), (q_1, .inl (k_2, 24, .inl (fun _ => 0))), (q_3, .inl (k_4, 24, .inl (fun _ => 0))), (q_5, .inl (k_6, 24, .inl (fun _ => 0)))] := hD
  refine lv_aload_n hx hb dX8_init_28 rfl (lv_at hl 0 rfl) ?_
  refine lv_bipush (v := 24) hx hb dX8_init_29 (by decide) ?_
  refine va_newa (atype := .int) (ty := .int) (N' := 24) (a0 := (24, .inl (fun _ => 0))) hx hb (hg _ gm_arrayClass_int) rfl hK hP hD hS hA (fun _ => rfl) (by decide) (by decide) (Nat.le_of_ble_eq_true rfl) (Nat.le_of_ble_eq_true rfl) (Nat.le_of_ble_eq_true rfl) dX8_init_31 (fun q_7 k_8 H hK hP hD hS => ?_)
  have hK : va_K (dC, dI) vwCl [(k_2, .int), (k_4, .int), (k_6, .int), (k_8, .int)] s := hK
  have hP : va_P (dC, dI) vwCl [(h0, .inr (8, [.ref q_1, .ref q_3, .ref q_5, .int 0, .null, .null, .null, .int 0, .int 0])), (q_1, .inl (k_2, 24, .inl (fun _ => 0))), (q_3, .inl (k_4, 24, .inl (fun _ => 0))), (q_5, .inl (k_6, 24, .inl (fun _ => 0))), (q_7, .inl (k_8, 24, .inl (fun _ => 0)))] H := hP
  have hD : va_D A [(h0, .inr (8, [.ref q_1, .ref q_3, .ref q_5, .int 0, .null, .null, .null, .int 0, .int 0])), (q_1, .inl (k_2, 24, .inl (fun _ => 0))), (q_3, .inl (k_4, 24, .inl (fun _ => 0))), (q_5, .inl (k_6, 24, .inl (fun _ => 0))), (q_7, .inl (k_8, 24, .inl (fun _ => 0)))] := hD
  refine W.widen (k := 4) (n := 96) (Nat.le_of_ble_eq_true rfl) (Nat.le_of_ble_eq_true rfl) ?_
  refine va_putF (D := (dC, dI)) (ci := 8) (v := .ref q_7) (ty := .array .int) (C := RX8) (T := TX8) (N := 9) hx hb hg gb_8 tyX8 tyX8_ok nmX8 hown hK hP hD hS 0 rfl rfl 4 (by decide) (hg _ gm_fieldLink_RX8_21_ErrandGuild_Scopes_tryKinds_AI_) (fun _ h9 => h9) rfl hin rfl (by decide +kernel) rfl rfl (Nat.le_of_ble_eq_true rfl) dX8_init_33 (fun H locs hP hD hS => ?_)
  have hP : va_P (dC, dI) vwCl [(h0, .inr (8, [.ref q_1, .ref q_3, .ref q_5, .int 0, .ref q_7, .null, .null, .int 0, .int 0])), (q_1, .inl (k_2, 24, .inl (fun _ => 0))), (q_3, .inl (k_4, 24, .inl (fun _ => 0))), (q_5, .inl (k_6, 24, .inl (fun _ => 0))), (q_7, .inl (k_8, 24, .inl (fun _ => 0)))] H := hP
  have hD : va_D A [(h0, .inr (8, [.ref q_1, .ref q_3, .ref q_5, .int 0, .ref q_7, .null, .null, .int 0, .int 0])), (q_1, .inl (k_2, 24, .inl (fun _ => 0))), (q_3, .inl (k_4, 24, .inl (fun _ => 0))), (q_5, .inl (k_6, 24, .inl (fun _ => 0))), (q_7, .inl (k_8, 24, .inl (fun _ => 0)))] := hD
  refine lv_aload_n hx hb dX8_init_36 rfl (lv_at hl 0 rfl) ?_
  refine lv_bipush (v := 24) hx hb dX8_init_37 (by decide) ?_
  refine va_newa (atype := .int) (ty := .int) (N' := 24) (a0 := (24, .inl (fun _ => 0))) hx hb (hg _ gm_arrayClass_int) rfl hK hP hD hS hA (fun _ => rfl) (by decide) (by decide) (Nat.le_of_ble_eq_true rfl) (Nat.le_of_ble_eq_true rfl) (Nat.le_of_ble_eq_true rfl) dX8_init_39 (fun q_9 k_10 H hK hP hD hS => ?_)
  have hK : va_K (dC, dI) vwCl [(k_2, .int), (k_4, .int), (k_6, .int), (k_8, .int), (k_10, .int)] s := hK
  have hP : va_P (dC, dI) vwCl [(h0, .inr (8, [.ref q_1, .ref q_3, .ref q_5, .int 0, .ref q_7, .null, .null, .int 0, .int 0])), (q_1, .inl (k_2, 24, .inl (fun _ => 0))), (q_3, .inl (k_4, 24, .inl (fun _ => 0))), (q_5, .inl (k_6, 24, .inl (fun _ => 0))), (q_7, .inl (k_8, 24, .inl (fun _ => 0))), (q_9, .inl (k_10, 24, .inl (fun _ => 0)))] H := hP
  have hD : va_D A [(h0, .inr (8, [.ref q_1, .ref q_3, .ref q_5, .int 0, .ref q_7, .null, .null, .int 0, .int 0])), (q_1, .inl (k_2, 24, .inl (fun _ => 0))), (q_3, .inl (k_4, 24, .inl (fun _ => 0))), (q_5, .inl (k_6, 24, .inl (fun _ => 0))), (q_7, .inl (k_8, 24, .inl (fun _ => 0))), (q_9, .inl (k_10, 24, .inl (fun _ => 0)))] := hD
  refine W.widen (k := 5) (n := 120) (Nat.le_of_ble_eq_true rfl) (Nat.le_of_ble_eq_true rfl) ?_
  refine va_putF (D := (dC, dI)) (ci := 8) (v := .ref q_9) (ty := .array .int) (C := RX8) (T := TX8) (N := 9) hx hb hg gb_8 tyX8 tyX8_ok nmX8 hown hK hP hD hS 0 rfl rfl 5 (by decide) (hg _ gm_fieldLink_RX8_24_ErrandGuild_Scopes_tryPlaces_AI_) (fun _ h9 => h9) rfl hin rfl (by decide +kernel) rfl rfl (Nat.le_of_ble_eq_true rfl) dX8_init_41 (fun H locs hP hD hS => ?_)
  have hP : va_P (dC, dI) vwCl [(h0, .inr (8, [.ref q_1, .ref q_3, .ref q_5, .int 0, .ref q_7, .ref q_9, .null, .int 0, .int 0])), (q_1, .inl (k_2, 24, .inl (fun _ => 0))), (q_3, .inl (k_4, 24, .inl (fun _ => 0))), (q_5, .inl (k_6, 24, .inl (fun _ => 0))), (q_7, .inl (k_8, 24, .inl (fun _ => 0))), (q_9, .inl (k_10, 24, .inl (fun _ => 0)))] H := hP
  have hD : va_D A [(h0, .inr (8, [.ref q_1, .ref q_3, .ref q_5, .int 0, .ref q_7, .ref q_9, .null, .int 0, .int 0])), (q_1, .inl (k_2, 24, .inl (fun _ => 0))), (q_3, .inl (k_4, 24, .inl (fun _ => 0))), (q_5, .inl (k_6, 24, .inl (fun _ => 0))), (q_7, .inl (k_8, 24, .inl (fun _ => 0))), (q_9, .inl (k_10, 24, .inl (fun _ => 0)))] := hD
  refine lv_aload_n hx hb dX8_init_44 rfl (lv_at hl 0 rfl) ?_
  refine lv_bipush (v := 24) hx hb dX8_init_45 (by decide) ?_
  refine va_newa (atype := .int) (ty := .int) (N' := 24) (a0 := (24, .inl (fun _ => 0))) hx hb (hg _ gm_arrayClass_int) rfl hK hP hD hS hA (fun _ => rfl) (by decide) (by decide) (Nat.le_of_ble_eq_true rfl) (Nat.le_of_ble_eq_true rfl) (Nat.le_of_ble_eq_true rfl) dX8_init_47 (fun q_11 k_12 H hK hP hD hS => ?_)
  have hK : va_K (dC, dI) vwCl [(k_2, .int), (k_4, .int), (k_6, .int), (k_8, .int), (k_10, .int), (k_12, .int)] s := hK
  have hP : va_P (dC, dI) vwCl [(h0, .inr (8, [.ref q_1, .ref q_3, .ref q_5, .int 0, .ref q_7, .ref q_9, .null, .int 0, .int 0])), (q_1, .inl (k_2, 24, .inl (fun _ => 0))), (q_3, .inl (k_4, 24, .inl (fun _ => 0))), (q_5, .inl (k_6, 24, .inl (fun _ => 0))), (q_7, .inl (k_8, 24, .inl (fun _ => 0))), (q_9, .inl (k_10, 24, .inl (fun _ => 0))), (q_11, .inl (k_12, 24, .inl (fun _ => 0)))] H := hP
  have hD : va_D A [(h0, .inr (8, [.ref q_1, .ref q_3, .ref q_5, .int 0, .ref q_7, .ref q_9, .null, .int 0, .int 0])), (q_1, .inl (k_2, 24, .inl (fun _ => 0))), (q_3, .inl (k_4, 24, .inl (fun _ => 0))), (q_5, .inl (k_6, 24, .inl (fun _ => 0))), (q_7, .inl (k_8, 24, .inl (fun _ => 0))), (q_9, .inl (k_10, 24, .inl (fun _ => 0))), (q_11, .inl (k_12, 24, .inl (fun _ => 0)))] := hD
  refine W.widen (k := 6) (n := 144) (Nat.le_of_ble_eq_true rfl) (Nat.le_of_ble_eq_true rfl) ?_
  refine va_putF (D := (dC, dI)) (ci := 8) (v := .ref q_11) (ty := .array .int) (C := RX8) (T := TX8) (N := 9) hx hb hg gb_8 tyX8 tyX8_ok nmX8 hown hK hP hD hS 0 rfl rfl 6 (by decide) (hg _ gm_fieldLink_RX8_27_ErrandGuild_Scopes_tryMarks_AI_) (fun _ h9 => h9) rfl hin rfl (by decide +kernel) rfl rfl (Nat.le_of_ble_eq_true rfl) dX8_init_49 (fun H locs hP hD hS => ?_)
  have hP : va_P (dC, dI) vwCl [(h0, .inr (8, [.ref q_1, .ref q_3, .ref q_5, .int 0, .ref q_7, .ref q_9, .ref q_11, .int 0, .int 0])), (q_1, .inl (k_2, 24, .inl (fun _ => 0))), (q_3, .inl (k_4, 24, .inl (fun _ => 0))), (q_5, .inl (k_6, 24, .inl (fun _ => 0))), (q_7, .inl (k_8, 24, .inl (fun _ => 0))), (q_9, .inl (k_10, 24, .inl (fun _ => 0))), (q_11, .inl (k_12, 24, .inl (fun _ => 0)))] H := hP
  have hD : va_D A [(h0, .inr (8, [.ref q_1, .ref q_3, .ref q_5, .int 0, .ref q_7, .ref q_9, .ref q_11, .int 0, .int 0])), (q_1, .inl (k_2, 24, .inl (fun _ => 0))), (q_3, .inl (k_4, 24, .inl (fun _ => 0))), (q_5, .inl (k_6, 24, .inl (fun _ => 0))), (q_7, .inl (k_8, 24, .inl (fun _ => 0))), (q_9, .inl (k_10, 24, .inl (fun _ => 0))), (q_11, .inl (k_12, 24, .inl (fun _ => 0)))] := hD
  have hP9 := hP.sub (ws' := [(h0, .inr (8, [.ref q_1, .ref q_3, .ref q_5, .int 0, .ref q_7, .ref q_9, .ref q_11, .int 0, .int 0]))]) [0] rfl
  have hD9 := hD.sub (ws' := [(h0, .inr (8, [.ref q_1, .ref q_3, .ref q_5, .int 0, .ref q_7, .ref q_9, .ref q_11, .int 0, .int 0]))]) [0] (by decide) rfl
  have hK9 := hK.sub (tys' := []) [] rfl
  exact W.vret hx hb hr (fun t ht hW => ⟨⟨((fun k => ([q_1, q_3, q_5, q_7, q_9, q_11] : List Nat).getD k 0), (fun _ => (dC 0)), (fun _ => (fun _ => 0)), (fun _ => (fun _ => none))), rfl, trivial, by rw [ht]; exact hP9, hD9, va_K.moved hW.alike hK9⟩, hS.F ht⟩) hS.2.2 dX8_init_52
