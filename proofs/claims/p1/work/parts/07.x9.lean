set_option maxHeartbeats 4000000 in
set_option maxRecDepth 100000 in
theorem c_X9_slot (l : Launch) (dC : Nat → ClassId) (dI : Nat → Nat → Nat) (h0 : Nat) (y0 : Nat) (y1 : Nat) (y2 : Nat) (y3 : Nat) (y4 : Nat) (y5 : Nat) (y6 : Nat) (y7 : Nat) (y8 : Nat) (k0 : ClassId) (k1 : ClassId) (f0 : Nat → Int32) (f1 : Nat → Int32) (v1 : Int32) (v2 : Int32) (v3 : Int32) (sz : Nat)  : Met l yX9_slot (.code yX9_slot cX9_slot 4 (some .boolean) :: gw) ({ frames := 1, cells := 0, slots := 0, locals := 20 }) (va_Pc [.ref h0, .int v1, .int v2, .int v3] (fun U => U.heap.size = sz ∧ va_P (dC, dI) vwCl [(h0, .inr (9, [.ref y0, .ref y1, .ref y2, .ref y3, .ref y4, .int 0, .ref y5, .int 2, .int 0, .ref y6, .int 0, .ref y7, .int 0, .ref y8, .int 0])), (y0, .inl (k0, 8, .inl f0)), (y1, .inl (k1, 8, .inl f1))] U.heap ∧ va_K (dC, dI) vwCl [(k0, .int), (k1, .int)] U ∧ va_D (fun _ => True) [(h0, .inr (9, [.ref y0, .ref y1, .ref y2, .ref y3, .ref y4, .int 0, .ref y5, .int 2, .int 0, .ref y6, .int 0, .ref y7, .int 0, .ref y8, .int 0])), (y0, .inl (k0, 8, .inl f0)), (y1, .inl (k1, 8, .inl f1))] ∧ nx U)) (va_Qi (fun (r : Int32) (u : Unit) => (r = 1 ∧ (0 ≤ v1.toInt ∧ v1.toInt < 8 ∧ 0 ≤ v2.toInt ∧ v2.toInt ≤ 4)) ∨ (r = 0 ∧ ¬ (0 ≤ v1.toInt ∧ v1.toInt < 8 ∧ 0 ≤ v2.toInt ∧ v2.toInt ≤ 4))) (fun _ _ => True) (va_A [(h0, .inr (9, [.ref y0, .ref y1, .ref y2, .ref y3, .ref y4, .int 0, .ref y5, .int 2, .int 0, .ref y6, .int 0, .ref y7, .int 0, .ref y8, .int 0])), (y0, .inl (k0, 8, .inl f0)), (y1, .inl (k1, 8, .inl f1))] sz)) 0 0 (va_A [(h0, .inr (9, [.ref y0, .ref y1, .ref y2, .ref y3, .ref y4, .int 0, .ref y5, .int 2, .int 0, .ref y6, .int 0, .ref y7, .int 0, .ref y8, .int 0])), (y0, .inl (k0, 8, .inl f0)), (y1, .inl (k1, 8, .inl f1))] sz) := by
  refine Met.ofW (cc := cX9_slot) (maxL := 4) (ret := (some .boolean)) (by decide) rfl ?_
  intro p e s m args below meth c s₁ B hml hv
  obtain ⟨rfl, hsz, hP, hK, hD0, hN⟩ := hv
  have hx := B.exec
  have hb := B.bytes
  have hr := B.returns
  have hts := atoms_spec (ws := .code yX9_slot cX9_slot 4 (some .boolean) :: gw) B.pre
  have hg : ∀ w ∈ gw, w.before _ s = true := fun w h => hts w (List.mem_cons_of_mem _ h)
  have hown : s.vm.findClass RX9 = some m.cls := findClass_of_methodNamed B.named
  have hlocks := B.notSynchronized
  subst hsz
  have hD := hD0.self (sz := s.heap.size)
  generalize hAe : va_A [(h0, .inr (9, [.ref y0, .ref y1, .ref y2, .ref y3, .ref y4, .int 0, .ref y5, .int 2, .int 0, .ref y6, .int 0, .ref y7, .int 0, .ref y8, .int 0])), (y0, .inl (k0, 8, .inl f0)), (y1, .inl (k1, 8, .inl f1))] s.heap.size = A at hD ⊢
  have hA : ∀ q : Nat, s.heap.size ≤ q → A q := fun q h => by rw [← hAe]; exact Or.inr h
  have hS : va_S A s.heap s.heap [] := va_S.rf
  have hP : va_P (dC, dI) vwCl [(h0, .inr (9, [.ref y0, .ref y1, .ref y2, .ref y3, .ref y4, .int 0, .ref y5, .int 2, .int 0, .ref y6, .int 0, .ref y7, .int 0, .ref y8, .int 0])), (y0, .inl (k0, 8, .inl f0)), (y1, .inl (k1, 8, .inl f1))] s.heap := hP
  have hl := lv_entry ([.ref h0, .int v1, .int v2, .int v3]) (n := 4) (Nat.le_of_ble_eq_true rfl)
  rw [lg_entry_eq]
  generalize (lg_sl ([.ref h0, .int v1, .int v2, .int v3]) ++ List.replicate (4 - (lg_sl ([.ref h0, .int v1, .int v2, .int v3])).length) Slot.unset).toArray = ls at hl ⊢
  have hl : lv_has ls 4 [(0, .ref h0), (1, .int v1), (2, .int v2), (3, .int v3)] := hl
  refine lv_iload_n hx hb dX9_slot_0 rfl (lv_at hl 1 rfl) ?_
  have hPc := hP.sub (ws' := []) [] rfl
  have hDc := hD.sub (ws' := []) [] (by decide) rfl
  have hKc := hK.sub (tys' := []) [] rfl
  have hFc := va_free (wc := []) hD hS hA [] rfl
  refine va_calli (va_runS (As := [.int v1]) (rest := []) ⟨hx, hb, hml, hown, hg⟩ (c_X9_isSlot l dC dI v1 s.heap.size ) (va_cwS 1 hg (gw_S gm_methodLink_RX9_62_yX9_isSlot gm_static_yX9_isSlot gm_initialized_RX9 gm_code_yX9_isSlot_cX9_isSlot_1_some_boolean_) rfl rfl rfl (by decide +kernel) ⟨Nat.le_of_ble_eq_true rfl, Nat.le_of_ble_eq_true rfl⟩) ⟨fun a U g mk q => by obtain ⟨q0, q1, qP, qK, qD, qN⟩ := q; exact ⟨q0, q1, qP, va_K.moved (u := U) (U := U.calling g mk a) (Vm.Alike.refl U.vm) qK, qD, nx_same (u := U) (U := U.calling g mk a) rfl qN⟩, fun U hU hW => ⟨rfl, by rw [hU], by rw [hU]; exact hPc, va_K.moved hW.alike hKc, hDc.weaken (fun _ _ _ _ => trivial), nx_warm hW hN⟩⟩ rfl rfl hl.1 rfl (lv_room (Nat.le_of_ble_eq_true rfl)) dX9_slot_1 ⟨Nat.le_of_ble_eq_true rfl, Nat.le_of_ble_eq_true rfl⟩) hS (fun q _ h => hFc q h) hFc (fun r_1 u_2 t H1 locs ht hvm hw hB hz1 hk1 hS => ?_)
  have hP1 : va_P (dC, dI) vwCl [] H1 := nil_P
  have hD1 := nil_D (A := va_A [] s.heap.size)
  obtain ⟨hP, hD⟩ := va_join (wr := [(h0, .inr (9, [.ref y0, .ref y1, .ref y2, .ref y3, .ref y4, .int 0, .ref y5, .int 2, .int 0, .ref y6, .int 0, .ref y7, .int 0, .ref y8, .int 0])), (y0, .inl (k0, 8, .inl f0)), (y1, .inl (k1, 8, .inl f1))]) (w1 := []) hP hD [] [0, 1, 2] rfl rfl (by decide) (by decide +kernel) hk1 hFc hP1 hD1
  generalize H1 = H at hP hS ⊢
  have hP : va_P (dC, dI) vwCl [(h0, .inr (9, [.ref y0, .ref y1, .ref y2, .ref y3, .ref y4, .int 0, .ref y5, .int 2, .int 0, .ref y6, .int 0, .ref y7, .int 0, .ref y8, .int 0])), (y0, .inl (k0, 8, .inl f0)), (y1, .inl (k1, 8, .inl f1))] H := hP
  have hD : va_D A [(h0, .inr (9, [.ref y0, .ref y1, .ref y2, .ref y3, .ref y4, .int 0, .ref y5, .int 2, .int 0, .ref y6, .int 0, .ref y7, .int 0, .ref y8, .int 0])), (y0, .inl (k0, 8, .inl f0)), (y1, .inl (k1, 8, .inl f1))] := hD
  refine W.widen (k := 0) (n := 0) (Nat.le_of_ble_eq_true rfl) (Nat.le_of_ble_eq_true rfl) ?_
  rcases hw with ⟨rfl, w_3⟩ | ⟨rfl, w_3⟩
  · refine lv_if_eq (tgt := 23) hx hb dX9_slot_4 (by decide) (fun c_4 => absurd c_4 (by decide)) (fun _ => ?_)
    refine lv_iload_n hx hb dX9_slot_7 rfl (lv_at hl 2 rfl) ?_
    refine lv_if_lt (tgt := 23) hx hb dX9_slot_8 (by decide) (fun c_5 => ?_) (fun c_5 => ?_)
    · simp only [i_lt, i_le, i_eq, ti_0] at c_5
      refine lv_iconst (v := 0) hx hb dX9_slot_23 (by decide) ?_
      exact W.zret (v := 0) hx hb hr rfl (fun t ht hW => ⟨⟨0, (), rfl, (Or.inr ⟨rfl, by omega⟩), trivial⟩, hS.F ht⟩) hS.2.2 dX9_slot_24
    · simp only [i_lt, i_le, i_eq, ti_0] at c_5
      refine lv_iload_n hx hb dX9_slot_11 rfl (lv_at hl 2 rfl) ?_
      refine lv_iconst (v := 4) hx hb dX9_slot_12 (by decide) ?_
      refine lv_icmp_gt (tgt := 23) hx hb dX9_slot_13 (by decide) (fun c_6 => ?_) (fun c_6 => ?_)
      · simp only [i_lt, i_le, i_eq, ti_4] at c_6
        refine lv_iconst (v := 0) hx hb dX9_slot_23 (by decide) ?_
        exact W.zret (v := 0) hx hb hr rfl (fun t ht hW => ⟨⟨0, (), rfl, (Or.inr ⟨rfl, by omega⟩), trivial⟩, hS.F ht⟩) hS.2.2 dX9_slot_24
      · simp only [i_lt, i_le, i_eq, ti_4] at c_6
        refine lv_aload_n hx hb dX9_slot_16 rfl (lv_at hl 0 rfl) ?_
        refine va_get (D := (dC, dI)) (ci := 9) (v := .int 0) (C := RX9) (T := TX9) (N := 15) hx hb hg gb_9 hown hK hP 0 rfl rfl 5 (by decide) (hg _ gm_fieldLink_RX9_66_ErrandGuild_runCount_I_) (fun _ h9 => h9) rfl dX9_slot_17 ?_
        refine lv_if_le (tgt := 25) hx hb dX9_slot_20 (by decide) (fun _ => ?_) (fun c_7 => absurd c_7 (by decide))
        refine lv_aload_n hx hb dX9_slot_25 rfl (lv_at hl 0 rfl) ?_
        refine va_get (D := (dC, dI)) (ci := 9) (v := .ref y0) (C := RX9) (T := TX9) (N := 15) hx hb hg gb_9 hown hK hP 0 rfl rfl 0 (by decide) (hg _ gm_fieldLink_RX9_9_ErrandGuild_manners_AI_) (fun _ h9 => h9) rfl dX9_slot_26 ?_
        refine lv_iload_n hx hb dX9_slot_29 rfl (lv_at hl 1 rfl) ?_
        refine lv_iload_n hx hb dX9_slot_30 rfl (lv_at hl 2 rfl) ?_
        refine va_iast hx hb hK hP hD hS 1 0 rfl rfl (vp_in_iff.mpr ⟨by omega, by omega⟩) dX9_slot_31 (fun H locs hP hD hS => ?_)
        have hP : va_P (dC, dI) vwCl [(h0, .inr (9, [.ref y0, .ref y1, .ref y2, .ref y3, .ref y4, .int 0, .ref y5, .int 2, .int 0, .ref y6, .int 0, .ref y7, .int 0, .ref y8, .int 0])), (y0, .inl (k0, 8, .inl (upd f0 (Int32.toNatClampNeg v1) v2))), (y1, .inl (k1, 8, .inl f1))] H := hP
        have hD : va_D A [(h0, .inr (9, [.ref y0, .ref y1, .ref y2, .ref y3, .ref y4, .int 0, .ref y5, .int 2, .int 0, .ref y6, .int 0, .ref y7, .int 0, .ref y8, .int 0])), (y0, .inl (k0, 8, .inl (upd f0 (Int32.toNatClampNeg v1) v2))), (y1, .inl (k1, 8, .inl f1))] := hD
        refine lv_aload_n hx hb dX9_slot_32 rfl (lv_at hl 0 rfl) ?_
        refine va_get (D := (dC, dI)) (ci := 9) (v := .ref y1) (C := RX9) (T := TX9) (N := 15) hx hb hg gb_9 hown hK hP 0 rfl rfl 1 (by decide) (hg _ gm_fieldLink_RX9_13_ErrandGuild_firsts_AI_) (fun _ h9 => h9) rfl dX9_slot_33 ?_
        refine lv_iload_n hx hb dX9_slot_36 rfl (lv_at hl 1 rfl) ?_
        refine lv_iload_n hx hb dX9_slot_37 rfl (lv_at hl 3 rfl) ?_
        refine va_iast hx hb hK hP hD hS 2 1 rfl rfl (vp_in_iff.mpr ⟨by omega, by omega⟩) dX9_slot_38 (fun H locs hP hD hS => ?_)
        have hP : va_P (dC, dI) vwCl [(h0, .inr (9, [.ref y0, .ref y1, .ref y2, .ref y3, .ref y4, .int 0, .ref y5, .int 2, .int 0, .ref y6, .int 0, .ref y7, .int 0, .ref y8, .int 0])), (y0, .inl (k0, 8, .inl (upd f0 (Int32.toNatClampNeg v1) v2))), (y1, .inl (k1, 8, .inl (upd f1 (Int32.toNatClampNeg v1) v3)))] H := hP
        have hD : va_D A [(h0, .inr (9, [.ref y0, .ref y1, .ref y2, .ref y3, .ref y4, .int 0, .ref y5, .int 2, .int 0, .ref y6, .int 0, .ref y7, .int 0, .ref y8, .int 0])), (y0, .inl (k0, 8, .inl (upd f0 (Int32.toNatClampNeg v1) v2))), (y1, .inl (k1, 8, .inl (upd f1 (Int32.toNatClampNeg v1) v3)))] := hD
        refine lv_iconst (v := 1) hx hb dX9_slot_39 (by decide) ?_
        exact W.zret (v := 1) hx hb hr rfl (fun t ht hW => ⟨⟨1, (), rfl, (Or.inl ⟨rfl, by omega⟩), trivial⟩, hS.F ht⟩) hS.2.2 dX9_slot_40
  · refine lv_if_eq (tgt := 23) hx hb dX9_slot_4 (by decide) (fun _ => ?_) (fun c_8 => absurd c_8 (by decide))
    refine lv_iconst (v := 0) hx hb dX9_slot_23 (by decide) ?_
    exact W.zret (v := 0) hx hb hr rfl (fun t ht hW => ⟨⟨0, (), rfl, (Or.inr ⟨rfl, by omega⟩), trivial⟩, hS.F ht⟩) hS.2.2 dX9_slot_24

set_option maxHeartbeats 4000000 in
set_option maxRecDepth 100000 in
theorem c_X9_first (l : Launch) (dC : Nat → ClassId) (dI : Nat → Nat → Nat) (h0 : Nat) (y0 : Nat) (y1 : Nat) (y2 : Nat) (y3 : Nat) (y4 : Nat) (y5 : Nat) (y6 : Nat) (y7 : Nat) (y8 : Nat) (k1 : ClassId) (f1 : Nat → Int32) (v1 : Int32) (v2 : Int32) (sz : Nat)  : Met l yX9_first (.code yX9_first cX9_first 3 (some .boolean) :: gw) ({ frames := 1, cells := 0, slots := 0, locals := 20 }) (va_Pc [.ref h0, .int v1, .int v2] (fun U => U.heap.size = sz ∧ va_P (dC, dI) vwCl [(h0, .inr (9, [.ref y0, .ref y1, .ref y2, .ref y3, .ref y4, .int 0, .ref y5, .int 2, .int 0, .ref y6, .int 0, .ref y7, .int 0, .ref y8, .int 0])), (y1, .inl (k1, 8, .inl f1))] U.heap ∧ va_K (dC, dI) vwCl [(k1, .int)] U ∧ va_D (fun _ => True) [(h0, .inr (9, [.ref y0, .ref y1, .ref y2, .ref y3, .ref y4, .int 0, .ref y5, .int 2, .int 0, .ref y6, .int 0, .ref y7, .int 0, .ref y8, .int 0])), (y1, .inl (k1, 8, .inl f1))] ∧ nx U)) (va_Qi (fun (r : Int32) (u : Unit) => (r = 1 ∧ (0 ≤ v1.toInt ∧ v1.toInt < 8)) ∨ (r = 0 ∧ ¬ (0 ≤ v1.toInt ∧ v1.toInt < 8))) (fun _ _ => True) (va_A [(h0, .inr (9, [.ref y0, .ref y1, .ref y2, .ref y3, .ref y4, .int 0, .ref y5, .int 2, .int 0, .ref y6, .int 0, .ref y7, .int 0, .ref y8, .int 0])), (y1, .inl (k1, 8, .inl f1))] sz)) 0 0 (va_A [(h0, .inr (9, [.ref y0, .ref y1, .ref y2, .ref y3, .ref y4, .int 0, .ref y5, .int 2, .int 0, .ref y6, .int 0, .ref y7, .int 0, .ref y8, .int 0])), (y1, .inl (k1, 8, .inl f1))] sz) := by
  refine Met.ofW (cc := cX9_first) (maxL := 3) (ret := (some .boolean)) (by decide) rfl ?_
  intro p e s m args below meth c s₁ B hml hv
  obtain ⟨rfl, hsz, hP, hK, hD0, hN⟩ := hv
  have hx := B.exec
  have hb := B.bytes
  have hr := B.returns
  have hts := atoms_spec (ws := .code yX9_first cX9_first 3 (some .boolean) :: gw) B.pre
  have hg : ∀ w ∈ gw, w.before _ s = true := fun w h => hts w (List.mem_cons_of_mem _ h)
  have hown : s.vm.findClass RX9 = some m.cls := findClass_of_methodNamed B.named
  have hlocks := B.notSynchronized
  subst hsz
  have hD := hD0.self (sz := s.heap.size)
  generalize hAe : va_A [(h0, .inr (9, [.ref y0, .ref y1, .ref y2, .ref y3, .ref y4, .int 0, .ref y5, .int 2, .int 0, .ref y6, .int 0, .ref y7, .int 0, .ref y8, .int 0])), (y1, .inl (k1, 8, .inl f1))] s.heap.size = A at hD ⊢
  have hA : ∀ q : Nat, s.heap.size ≤ q → A q := fun q h => by rw [← hAe]; exact Or.inr h
  have hS : va_S A s.heap s.heap [] := va_S.rf
  have hP : va_P (dC, dI) vwCl [(h0, .inr (9, [.ref y0, .ref y1, .ref y2, .ref y3, .ref y4, .int 0, .ref y5, .int 2, .int 0, .ref y6, .int 0, .ref y7, .int 0, .ref y8, .int 0])), (y1, .inl (k1, 8, .inl f1))] s.heap := hP
  have hl := lv_entry ([.ref h0, .int v1, .int v2]) (n := 3) (Nat.le_of_ble_eq_true rfl)
  rw [lg_entry_eq]
  generalize (lg_sl ([.ref h0, .int v1, .int v2]) ++ List.replicate (3 - (lg_sl ([.ref h0, .int v1, .int v2])).length) Slot.unset).toArray = ls at hl ⊢
  have hl : lv_has ls 3 [(0, .ref h0), (1, .int v1), (2, .int v2)] := hl
  refine lv_iload_n hx hb dX9_first_0 rfl (lv_at hl 1 rfl) ?_
  have hPc := hP.sub (ws' := []) [] rfl
  have hDc := hD.sub (ws' := []) [] (by decide) rfl
  have hKc := hK.sub (tys' := []) [] rfl
  have hFc := va_free (wc := []) hD hS hA [] rfl
  refine va_calli (va_runS (As := [.int v1]) (rest := []) ⟨hx, hb, hml, hown, hg⟩ (c_X9_isSlot l dC dI v1 s.heap.size ) (va_cwS 1 hg (gw_S gm_methodLink_RX9_62_yX9_isSlot gm_static_yX9_isSlot gm_initialized_RX9 gm_code_yX9_isSlot_cX9_isSlot_1_some_boolean_) rfl rfl rfl (by decide +kernel) ⟨Nat.le_of_ble_eq_true rfl, Nat.le_of_ble_eq_true rfl⟩) ⟨fun a U g mk q => by obtain ⟨q0, q1, qP, qK, qD, qN⟩ := q; exact ⟨q0, q1, qP, va_K.moved (u := U) (U := U.calling g mk a) (Vm.Alike.refl U.vm) qK, qD, nx_same (u := U) (U := U.calling g mk a) rfl qN⟩, fun U hU hW => ⟨rfl, by rw [hU], by rw [hU]; exact hPc, va_K.moved hW.alike hKc, hDc.weaken (fun _ _ _ _ => trivial), nx_warm hW hN⟩⟩ rfl rfl hl.1 rfl (lv_room (Nat.le_of_ble_eq_true rfl)) dX9_first_1 ⟨Nat.le_of_ble_eq_true rfl, Nat.le_of_ble_eq_true rfl⟩) hS (fun q _ h => hFc q h) hFc (fun r_1 u_2 t H1 locs ht hvm hw hB hz1 hk1 hS => ?_)
  have hP1 : va_P (dC, dI) vwCl [] H1 := nil_P
  have hD1 := nil_D (A := va_A [] s.heap.size)
  obtain ⟨hP, hD⟩ := va_join (wr := [(h0, .inr (9, [.ref y0, .ref y1, .ref y2, .ref y3, .ref y4, .int 0, .ref y5, .int 2, .int 0, .ref y6, .int 0, .ref y7, .int 0, .ref y8, .int 0])), (y1, .inl (k1, 8, .inl f1))]) (w1 := []) hP hD [] [0, 1] rfl rfl (by decide) (by decide +kernel) hk1 hFc hP1 hD1
  generalize H1 = H at hP hS ⊢
  have hP : va_P (dC, dI) vwCl [(h0, .inr (9, [.ref y0, .ref y1, .ref y2, .ref y3, .ref y4, .int 0, .ref y5, .int 2, .int 0, .ref y6, .int 0, .ref y7, .int 0, .ref y8, .int 0])), (y1, .inl (k1, 8, .inl f1))] H := hP
  have hD : va_D A [(h0, .inr (9, [.ref y0, .ref y1, .ref y2, .ref y3, .ref y4, .int 0, .ref y5, .int 2, .int 0, .ref y6, .int 0, .ref y7, .int 0, .ref y8, .int 0])), (y1, .inl (k1, 8, .inl f1))] := hD
  refine W.widen (k := 0) (n := 0) (Nat.le_of_ble_eq_true rfl) (Nat.le_of_ble_eq_true rfl) ?_
  rcases hw with ⟨rfl, w_3⟩ | ⟨rfl, w_3⟩
  · refine lv_if_ne (tgt := 9) hx hb dX9_first_4 (by decide) (fun _ => ?_) (fun c_4 => absurd c_4 (by decide))
    refine lv_aload_n hx hb dX9_first_9 rfl (lv_at hl 0 rfl) ?_
    refine va_get (D := (dC, dI)) (ci := 9) (v := .ref y1) (C := RX9) (T := TX9) (N := 15) hx hb hg gb_9 hown hK hP 0 rfl rfl 1 (by decide) (hg _ gm_fieldLink_RX9_13_ErrandGuild_firsts_AI_) (fun _ h9 => h9) rfl dX9_first_10 ?_
    refine lv_iload_n hx hb dX9_first_13 rfl (lv_at hl 1 rfl) ?_
    refine lv_iload_n hx hb dX9_first_14 rfl (lv_at hl 2 rfl) ?_
    refine va_iast hx hb hK hP hD hS 1 0 rfl rfl (vp_in_iff.mpr ⟨by omega, by omega⟩) dX9_first_15 (fun H locs hP hD hS => ?_)
    have hP : va_P (dC, dI) vwCl [(h0, .inr (9, [.ref y0, .ref y1, .ref y2, .ref y3, .ref y4, .int 0, .ref y5, .int 2, .int 0, .ref y6, .int 0, .ref y7, .int 0, .ref y8, .int 0])), (y1, .inl (k1, 8, .inl (upd f1 (Int32.toNatClampNeg v1) v2)))] H := hP
    have hD : va_D A [(h0, .inr (9, [.ref y0, .ref y1, .ref y2, .ref y3, .ref y4, .int 0, .ref y5, .int 2, .int 0, .ref y6, .int 0, .ref y7, .int 0, .ref y8, .int 0])), (y1, .inl (k1, 8, .inl (upd f1 (Int32.toNatClampNeg v1) v2)))] := hD
    refine lv_iconst (v := 1) hx hb dX9_first_16 (by decide) ?_
    exact W.zret (v := 1) hx hb hr rfl (fun t ht hW => ⟨⟨1, (), rfl, (Or.inl ⟨rfl, by omega⟩), trivial⟩, hS.F ht⟩) hS.2.2 dX9_first_17
  · refine lv_if_ne (tgt := 9) hx hb dX9_first_4 (by decide) (fun c_5 => absurd c_5 (by decide)) (fun _ => ?_)
    refine lv_iconst (v := 0) hx hb dX9_first_7 (by decide) ?_
    exact W.zret (v := 0) hx hb hr rfl (fun t ht hW => ⟨⟨0, (), rfl, (Or.inr ⟨rfl, by omega⟩), trivial⟩, hS.F ht⟩) hS.2.2 dX9_first_8

set_option maxHeartbeats 4000000 in
set_option maxRecDepth 100000 in
theorem c_X9_threads (l : Launch) (dC : Nat → ClassId) (dI : Nat → Nat → Nat) (h0 : Nat) (y0 : Nat) (y1 : Nat) (y2 : Nat) (y3 : Nat) (y4 : Nat) (y5 : Nat) (y6 : Nat) (y7 : Nat) (y8 : Nat) (v1 : Int32) (sz : Nat)  : Met l yX9_threads (.code yX9_threads cX9_threads 2 (some .boolean) :: gw) ({ frames := 0, cells := 0, slots := 0, locals := 0 }) (va_Pc [.ref h0, .int v1] (fun U => U.heap.size = sz ∧ va_P (dC, dI) vwCl [(h0, .inr (9, [.ref y0, .ref y1, .ref y2, .ref y3, .ref y4, .int 0, .ref y5, .int 2, .int 0, .ref y6, .int 0, .ref y7, .int 0, .ref y8, .int 0]))] U.heap ∧ va_K (dC, dI) vwCl [] U ∧ va_D (fun _ => True) [(h0, .inr (9, [.ref y0, .ref y1, .ref y2, .ref y3, .ref y4, .int 0, .ref y5, .int 2, .int 0, .ref y6, .int 0, .ref y7, .int 0, .ref y8, .int 0]))] ∧ nx U)) (va_Qi (fun (r : Int32) (u : Unit) => (r = 1 ∧ (1 ≤ v1.toInt ∧ v1.toInt ≤ 6)) ∨ (r = 0 ∧ ¬ (1 ≤ v1.toInt ∧ v1.toInt ≤ 6))) (fun _ _ => True) (va_A [(h0, .inr (9, [.ref y0, .ref y1, .ref y2, .ref y3, .ref y4, .int 0, .ref y5, .int 2, .int 0, .ref y6, .int 0, .ref y7, .int 0, .ref y8, .int 0]))] sz)) 0 0 (va_A [(h0, .inr (9, [.ref y0, .ref y1, .ref y2, .ref y3, .ref y4, .int 0, .ref y5, .int 2, .int 0, .ref y6, .int 0, .ref y7, .int 0, .ref y8, .int 0]))] sz) := by
  refine Met.ofW (cc := cX9_threads) (maxL := 2) (ret := (some .boolean)) (by decide) rfl ?_
  intro p e s m args below meth c s₁ B hml hv
  obtain ⟨rfl, hsz, hP, hK, hD0, hN⟩ := hv
  have hx := B.exec
  have hb := B.bytes
  have hr := B.returns
  have hts := atoms_spec (ws := .code yX9_threads cX9_threads 2 (some .boolean) :: gw) B.pre
  have hg : ∀ w ∈ gw, w.before _ s = true := fun w h => hts w (List.mem_cons_of_mem _ h)
  have hown : s.vm.findClass RX9 = some m.cls := findClass_of_methodNamed B.named
  have hlocks := B.notSynchronized
  subst hsz
  have hD := hD0.self (sz := s.heap.size)
  generalize hAe : va_A [(h0, .inr (9, [.ref y0, .ref y1, .ref y2, .ref y3, .ref y4, .int 0, .ref y5, .int 2, .int 0, .ref y6, .int 0, .ref y7, .int 0, .ref y8, .int 0]))] s.heap.size = A at hD ⊢
  have hA : ∀ q : Nat, s.heap.size ≤ q → A q := fun q h => by rw [← hAe]; exact Or.inr h
  have hS : va_S A s.heap s.heap [] := va_S.rf
  have hP : va_P (dC, dI) vwCl [(h0, .inr (9, [.ref y0, .ref y1, .ref y2, .ref y3, .ref y4, .int 0, .ref y5, .int 2, .int 0, .ref y6, .int 0, .ref y7, .int 0, .ref y8, .int 0]))] s.heap := hP
  have hl := lv_entry ([.ref h0, .int v1]) (n := 2) (Nat.le_of_ble_eq_true rfl)
  rw [lg_entry_eq]
  generalize (lg_sl ([.ref h0, .int v1]) ++ List.replicate (2 - (lg_sl ([.ref h0, .int v1])).length) Slot.unset).toArray = ls at hl ⊢
  have hl : lv_has ls 2 [(0, .ref h0), (1, .int v1)] := hl
  refine lv_iload_n hx hb dX9_threads_0 rfl (lv_at hl 1 rfl) ?_
  refine lv_iconst (v := 1) hx hb dX9_threads_1 (by decide) ?_
  refine lv_icmp_lt (tgt := 18) hx hb dX9_threads_2 (by decide) (fun c_1 => ?_) (fun c_1 => ?_)
  · simp only [i_lt, i_le, i_eq, ti_1] at c_1
    refine lv_iconst (v := 0) hx hb dX9_threads_18 (by decide) ?_
    exact W.zret (v := 0) hx hb hr rfl (fun t ht hW => ⟨⟨0, (), rfl, (Or.inr ⟨rfl, by omega⟩), trivial⟩, hS.F ht⟩) hS.2.2 dX9_threads_19
  · simp only [i_lt, i_le, i_eq, ti_1] at c_1
    refine lv_iload_n hx hb dX9_threads_5 rfl (lv_at hl 1 rfl) ?_
    refine lv_bipush (v := 6) hx hb dX9_threads_6 (by decide) ?_
    refine lv_icmp_gt (tgt := 18) hx hb dX9_threads_8 (by decide) (fun c_2 => ?_) (fun c_2 => ?_)
    · simp only [i_lt, i_le, i_eq, ti_6] at c_2
      refine lv_iconst (v := 0) hx hb dX9_threads_18 (by decide) ?_
      exact W.zret (v := 0) hx hb hr rfl (fun t ht hW => ⟨⟨0, (), rfl, (Or.inr ⟨rfl, by omega⟩), trivial⟩, hS.F ht⟩) hS.2.2 dX9_threads_19
    · simp only [i_lt, i_le, i_eq, ti_6] at c_2
      refine lv_aload_n hx hb dX9_threads_11 rfl (lv_at hl 0 rfl) ?_
      refine va_get (D := (dC, dI)) (ci := 9) (v := .int 0) (C := RX9) (T := TX9) (N := 15) hx hb hg gb_9 hown hK hP 0 rfl rfl 5 (by decide) (hg _ gm_fieldLink_RX9_66_ErrandGuild_runCount_I_) (fun _ h9 => h9) rfl dX9_threads_12 ?_
      refine lv_if_le (tgt := 20) hx hb dX9_threads_15 (by decide) (fun _ => ?_) (fun c_3 => absurd c_3 (by decide))
      refine lv_aload_n hx hb dX9_threads_20 rfl (lv_at hl 0 rfl) ?_
      refine lv_iload_n hx hb dX9_threads_21 rfl (lv_at hl 1 rfl) ?_
      refine va_put (D := (dC, dI)) (ci := 9) (v := .int v1) (ty := .int) (C := RX9) (T := TX9) (N := 15) hx hb hg gb_9 tyX9 tyX9_ok nmX9 hown hK hP hD hS 0 rfl rfl 7 (by decide) (hg _ gm_fieldLink_RX9_38_ErrandGuild_threadCount_I_) (fun _ h9 => h9) rfl (by decide +kernel) rfl rfl (Nat.le_of_ble_eq_true rfl) dX9_threads_22 (fun H locs hP hD hS => ?_)
      have hP : va_P (dC, dI) vwCl [(h0, .inr (9, [.ref y0, .ref y1, .ref y2, .ref y3, .ref y4, .int 0, .ref y5, .int v1, .int 0, .ref y6, .int 0, .ref y7, .int 0, .ref y8, .int 0]))] H := hP
      have hD : va_D A [(h0, .inr (9, [.ref y0, .ref y1, .ref y2, .ref y3, .ref y4, .int 0, .ref y5, .int v1, .int 0, .ref y6, .int 0, .ref y7, .int 0, .ref y8, .int 0]))] := hD
      refine lv_iconst (v := 1) hx hb dX9_threads_25 (by decide) ?_
      exact W.zret (v := 1) hx hb hr rfl (fun t ht hW => ⟨⟨1, (), rfl, (Or.inl ⟨rfl, by omega⟩), trivial⟩, hS.F ht⟩) hS.2.2 dX9_threads_26

set_option maxHeartbeats 4000000 in
set_option maxRecDepth 100000 in
theorem c_X9_runAt (l : Launch) (dC : Nat → ClassId) (dI : Nat → Nat → Nat) (h0 : Nat) (y0 : Nat) (y1 : Nat) (y2 : Nat) (y3 : Nat) (y4 : Nat) (y5 : Nat) (y6 : Nat) (y7 : Nat) (y8 : Nat) (v1 : Int32) (sz : Nat)  : Met l yX9_runAt (.code yX9_runAt cX9_runAt 2 (some (.object "ErrandGuild$Run")) :: gw) ({ frames := 0, cells := 0, slots := 0, locals := 0 }) (va_Pc [.ref h0, .int v1] (fun U => U.heap.size = sz ∧ va_P (dC, dI) vwCl [(h0, .inr (9, [.ref y0, .ref y1, .ref y2, .ref y3, .ref y4, .int 0, .ref y5, .int 2, .int 0, .ref y6, .int 0, .ref y7, .int 0, .ref y8, .int 0]))] U.heap ∧ va_K (dC, dI) vwCl [] U ∧ va_D (fun _ => True) [(h0, .inr (9, [.ref y0, .ref y1, .ref y2, .ref y3, .ref y4, .int 0, .ref y5, .int 2, .int 0, .ref y6, .int 0, .ref y7, .int 0, .ref y8, .int 0]))] ∧ nx U)) (va_Qq (fun (r : Option Nat) (u : Unit) => r = none) (fun _ _ => True) (va_A [(h0, .inr (9, [.ref y0, .ref y1, .ref y2, .ref y3, .ref y4, .int 0, .ref y5, .int 2, .int 0, .ref y6, .int 0, .ref y7, .int 0, .ref y8, .int 0]))] sz)) 0 0 (va_A [(h0, .inr (9, [.ref y0, .ref y1, .ref y2, .ref y3, .ref y4, .int 0, .ref y5, .int 2, .int 0, .ref y6, .int 0, .ref y7, .int 0, .ref y8, .int 0]))] sz) := by
  refine Met.ofW (cc := cX9_runAt) (maxL := 2) (ret := (some (.object "ErrandGuild$Run"))) (by decide) rfl ?_
  intro p e s m args below meth c s₁ B hml hv
  obtain ⟨rfl, hsz, hP, hK, hD0, hN⟩ := hv
  have hx := B.exec
  have hb := B.bytes
  have hr := B.returns
  have hts := atoms_spec (ws := .code yX9_runAt cX9_runAt 2 (some (.object "ErrandGuild$Run")) :: gw) B.pre
  have hg : ∀ w ∈ gw, w.before _ s = true := fun w h => hts w (List.mem_cons_of_mem _ h)
  have hown : s.vm.findClass RX9 = some m.cls := findClass_of_methodNamed B.named
  have hlocks := B.notSynchronized
  subst hsz
  have hD := hD0.self (sz := s.heap.size)
  generalize hAe : va_A [(h0, .inr (9, [.ref y0, .ref y1, .ref y2, .ref y3, .ref y4, .int 0, .ref y5, .int 2, .int 0, .ref y6, .int 0, .ref y7, .int 0, .ref y8, .int 0]))] s.heap.size = A at hD ⊢
  have hA : ∀ q : Nat, s.heap.size ≤ q → A q := fun q h => by rw [← hAe]; exact Or.inr h
  have hS : va_S A s.heap s.heap [] := va_S.rf
  have hP : va_P (dC, dI) vwCl [(h0, .inr (9, [.ref y0, .ref y1, .ref y2, .ref y3, .ref y4, .int 0, .ref y5, .int 2, .int 0, .ref y6, .int 0, .ref y7, .int 0, .ref y8, .int 0]))] s.heap := hP
  have hl := lv_entry ([.ref h0, .int v1]) (n := 2) (Nat.le_of_ble_eq_true rfl)
  rw [lg_entry_eq]
  generalize (lg_sl ([.ref h0, .int v1]) ++ List.replicate (2 - (lg_sl ([.ref h0, .int v1])).length) Slot.unset).toArray = ls at hl ⊢
  have hl : lv_has ls 2 [(0, .ref h0), (1, .int v1)] := hl
  refine lv_iload_n hx hb dX9_runAt_0 rfl (lv_at hl 1 rfl) ?_
  refine lv_if_lt (tgt := 28) hx hb dX9_runAt_1 (by decide) (fun c_1 => ?_) (fun c_1 => ?_)
  · simp only [i_lt, i_le, i_eq, ti_0] at c_1
    refine lv_null hx hb dX9_runAt_28 ?_
    exact W.aret (v := .null) hx hb hr (Or.inl ⟨_, rfl⟩) (Or.inl rfl) (fun t ht hW => ⟨⟨none, (), rfl, rfl, trivial⟩, hS.F ht⟩) hS.2.2 dX9_runAt_29
  · simp only [i_lt, i_le, i_eq, ti_0] at c_1
    refine lv_iload_n hx hb dX9_runAt_4 rfl (lv_at hl 1 rfl) ?_
    refine lv_aload_n hx hb dX9_runAt_5 rfl (lv_at hl 0 rfl) ?_
    refine va_get (D := (dC, dI)) (ci := 9) (v := .int 0) (C := RX9) (T := TX9) (N := 15) hx hb hg gb_9 hown hK hP 0 rfl rfl 5 (by decide) (hg _ gm_fieldLink_RX9_66_ErrandGuild_runCount_I_) (fun _ h9 => h9) rfl dX9_runAt_6 ?_
    refine lv_icmp_ge (tgt := 28) hx hb dX9_runAt_9 (by decide) (fun c_2 => ?_) (fun c_2 => ?_)
    · simp only [i_lt, i_le, i_eq, ti_0] at c_2
      refine lv_null hx hb dX9_runAt_28 ?_
      exact W.aret (v := .null) hx hb hr (Or.inl ⟨_, rfl⟩) (Or.inl rfl) (fun t ht hW => ⟨⟨none, (), rfl, rfl, trivial⟩, hS.F ht⟩) hS.2.2 dX9_runAt_29
    · simp only [i_lt, i_le, i_eq, ti_0] at c_2
      exfalso
      omega

set_option maxHeartbeats 4000000 in
set_option maxRecDepth 100000 in
theorem c_X9_failedAt (l : Launch) (dC : Nat → ClassId) (dI : Nat → Nat → Nat) (h0 : Nat) (y0 : Nat) (y1 : Nat) (y2 : Nat) (y3 : Nat) (y4 : Nat) (y5 : Nat) (y6 : Nat) (y7 : Nat) (y8 : Nat) (v1 : Int32) (sz : Nat)  : Met l yX9_failedAt (.code yX9_failedAt cX9_failedAt 3 (some (.object "ErrandGuild$Run")) :: gw) ({ frames := 1, cells := 0, slots := 0, locals := 21 }) (va_Pc [.ref h0, .int v1] (fun U => U.heap.size = sz ∧ va_P (dC, dI) vwCl [(h0, .inr (9, [.ref y0, .ref y1, .ref y2, .ref y3, .ref y4, .int 0, .ref y5, .int 2, .int 0, .ref y6, .int 0, .ref y7, .int 0, .ref y8, .int 0]))] U.heap ∧ va_K (dC, dI) vwCl [] U ∧ va_D (fun _ => True) [(h0, .inr (9, [.ref y0, .ref y1, .ref y2, .ref y3, .ref y4, .int 0, .ref y5, .int 2, .int 0, .ref y6, .int 0, .ref y7, .int 0, .ref y8, .int 0]))] ∧ nx U)) (va_Qq (fun (r : Option Nat) (u : Unit) => r = none) (fun _ _ => True) (va_A [(h0, .inr (9, [.ref y0, .ref y1, .ref y2, .ref y3, .ref y4, .int 0, .ref y5, .int 2, .int 0, .ref y6, .int 0, .ref y7, .int 0, .ref y8, .int 0]))] sz)) 0 0 (va_A [(h0, .inr (9, [.ref y0, .ref y1, .ref y2, .ref y3, .ref y4, .int 0, .ref y5, .int 2, .int 0, .ref y6, .int 0, .ref y7, .int 0, .ref y8, .int 0]))] sz) := by
  refine Met.ofW (cc := cX9_failedAt) (maxL := 3) (ret := (some (.object "ErrandGuild$Run"))) (by decide) rfl ?_
  intro p e s m args below meth c s₁ B hml hv
  obtain ⟨rfl, hsz, hP, hK, hD0, hN⟩ := hv
  have hx := B.exec
  have hb := B.bytes
  have hr := B.returns
  have hts := atoms_spec (ws := .code yX9_failedAt cX9_failedAt 3 (some (.object "ErrandGuild$Run")) :: gw) B.pre
  have hg : ∀ w ∈ gw, w.before _ s = true := fun w h => hts w (List.mem_cons_of_mem _ h)
  have hown : s.vm.findClass RX9 = some m.cls := findClass_of_methodNamed B.named
  have hlocks := B.notSynchronized
  subst hsz
  have hD := hD0.self (sz := s.heap.size)
  generalize hAe : va_A [(h0, .inr (9, [.ref y0, .ref y1, .ref y2, .ref y3, .ref y4, .int 0, .ref y5, .int 2, .int 0, .ref y6, .int 0, .ref y7, .int 0, .ref y8, .int 0]))] s.heap.size = A at hD ⊢
  have hA : ∀ q : Nat, s.heap.size ≤ q → A q := fun q h => by rw [← hAe]; exact Or.inr h
  have hS : va_S A s.heap s.heap [] := va_S.rf
  have hP : va_P (dC, dI) vwCl [(h0, .inr (9, [.ref y0, .ref y1, .ref y2, .ref y3, .ref y4, .int 0, .ref y5, .int 2, .int 0, .ref y6, .int 0, .ref y7, .int 0, .ref y8, .int 0]))] s.heap := hP
  have hl := lv_entry ([.ref h0, .int v1]) (n := 3) (Nat.le_of_ble_eq_true rfl)
  rw [lg_entry_eq]
  generalize (lg_sl ([.ref h0, .int v1]) ++ List.replicate (3 - (lg_sl ([.ref h0, .int v1])).length) Slot.unset).toArray = ls at hl ⊢
  have hl : lv_has ls 3 [(0, .ref h0), (1, .int v1)] := hl
  refine lv_aload_n hx hb dX9_failedAt_0 rfl (lv_at hl 0 rfl) ?_
  refine lv_iload_n hx hb dX9_failedAt_1 rfl (lv_at hl 1 rfl) ?_
  have hPc := hP.sub (ws' := [(h0, .inr (9, [.ref y0, .ref y1, .ref y2, .ref y3, .ref y4, .int 0, .ref y5, .int 2, .int 0, .ref y6, .int 0, .ref y7, .int 0, .ref y8, .int 0]))]) [0] rfl
  have hDc := hD.sub (ws' := [(h0, .inr (9, [.ref y0, .ref y1, .ref y2, .ref y3, .ref y4, .int 0, .ref y5, .int 2, .int 0, .ref y6, .int 0, .ref y7, .int 0, .ref y8, .int 0]))]) [0] (by decide) rfl
  have hKc := hK.sub (tys' := []) [] rfl
  have hFc := va_free (wc := [(h0, .inr (9, [.ref y0, .ref y1, .ref y2, .ref y3, .ref y4, .int 0, .ref y5, .int 2, .int 0, .ref y6, .int 0, .ref y7, .int 0, .ref y8, .int 0]))]) hD hS hA [0] rfl
  refine va_callq (va_runV (As := [.int v1]) (rest := []) ⟨hx, hb, hml, hown, hg⟩ (c_X9_runAt l dC dI h0 y0 y1 y2 y3 y4 y5 y6 y7 y8 v1 s.heap.size ) (cwV 1 hg (gw_V gm_methodLink_RX9_134_yX9_runAt gm_instanceMethod_yX9_runAt gm_selects_RX9_yX9_runAt_yX9_runAt gm_initialized_RX9 gm_code_yX9_runAt_cX9_runAt_2_some_object_ErrandGuild_Run_) rfl rfl rfl (by decide +kernel) ⟨Nat.le_of_ble_eq_true rfl, Nat.le_of_ble_eq_true rfl⟩) ⟨fun a U g mk q => by obtain ⟨q0, q1, qP, qK, qD, qN⟩ := q; exact ⟨q0, q1, qP, va_K.moved (u := U) (U := U.calling g mk a) (Vm.Alike.refl U.vm) qK, qD, nx_same (u := U) (U := U.calling g mk a) rfl qN⟩, va_recv hKc hPc (ci := 9) (q0 := 0) rfl rfl, fun U hU hW => ⟨rfl, by rw [hU], by rw [hU]; exact hPc, va_K.moved hW.alike hKc, hDc.weaken (fun _ _ _ _ => trivial), nx_warm hW hN⟩⟩ rfl rfl hl.1 rfl (lv_room (Nat.le_of_ble_eq_true rfl)) dX9_failedAt_2 ⟨Nat.le_of_ble_eq_true rfl, Nat.le_of_ble_eq_true rfl⟩) hS (fun q _ h => hFc q h) hFc (fun r_1 u_2 t H1 locs ht hvm hw hB hz1 hk1 hS => ?_)
  have hP1 : va_P (dC, dI) vwCl [] H1 := nil_P
  have hD1 := nil_D (A := va_A [(h0, .inr (9, [.ref y0, .ref y1, .ref y2, .ref y3, .ref y4, .int 0, .ref y5, .int 2, .int 0, .ref y6, .int 0, .ref y7, .int 0, .ref y8, .int 0]))] s.heap.size)
  obtain ⟨hP, hD⟩ := va_join (wr := []) (w1 := []) hP hD [0] [] rfl rfl (by decide) (by decide +kernel) hk1 hFc hP1 hD1
  generalize H1 = H at hP hS ⊢
  have hP : va_P (dC, dI) vwCl [] H := hP
  have hD : va_D A [] := hD
  refine W.widen (k := 0) (n := 0) (Nat.le_of_ble_eq_true rfl) (Nat.le_of_ble_eq_true rfl) ?_
  obtain rfl : r_1 = none := hw
  refine W.eq (g2 := F0 m 5 ls [.null]) rfl ?_
  refine lv_astore_nN (lv' := [(2, .null), (0, .ref h0), (1, .int v1)]) hx hb dX9_failedAt_5 rfl hl (by decide) rfl (fun ls hl => ?_)
  refine lv_aload_nN hx hb dX9_failedAt_6 rfl (lv_at hl 0 rfl) ?_
  refine lv_ifnullN (tgt := 22) hx hb dX9_failedAt_7 (by decide) ?_
  refine lv_null hx hb dX9_failedAt_22 ?_
  exact W.aret (v := .null) hx hb hr (Or.inl ⟨_, rfl⟩) (Or.inl rfl) (fun t ht hW => ⟨⟨none, (), rfl, rfl, trivial⟩, hS.F ht⟩) hS.2.2 dX9_failedAt_23

set_option maxHeartbeats 4000000 in
set_option maxRecDepth 100000 in
theorem c_X9_interrupt (l : Launch) (dC : Nat → ClassId) (dI : Nat → Nat → Nat) (h0 : Nat) (y0 : Nat) (y1 : Nat) (y2 : Nat) (y3 : Nat) (y4 : Nat) (y5 : Nat) (y6 : Nat) (y7 : Nat) (y8 : Nat) (v1 : Int32) (sz : Nat)  : Met l yX9_interrupt (.code yX9_interrupt cX9_interrupt 3 (some .boolean) :: gw) ({ frames := 1, cells := 0, slots := 0, locals := 21 }) (va_Pc [.ref h0, .int v1] (fun U => U.heap.size = sz ∧ va_P (dC, dI) vwCl [(h0, .inr (9, [.ref y0, .ref y1, .ref y2, .ref y3, .ref y4, .int 0, .ref y5, .int 2, .int 0, .ref y6, .int 0, .ref y7, .int 0, .ref y8, .int 0]))] U.heap ∧ va_K (dC, dI) vwCl [] U ∧ va_D (fun _ => True) [(h0, .inr (9, [.ref y0, .ref y1, .ref y2, .ref y3, .ref y4, .int 0, .ref y5, .int 2, .int 0, .ref y6, .int 0, .ref y7, .int 0, .ref y8, .int 0]))] ∧ nx U)) (va_Qi (fun (r : Int32) (u : Unit) => r = 0) (fun _ _ => True) (va_A [(h0, .inr (9, [.ref y0, .ref y1, .ref y2, .ref y3, .ref y4, .int 0, .ref y5, .int 2, .int 0, .ref y6, .int 0, .ref y7, .int 0, .ref y8, .int 0]))] sz)) 0 0 (va_A [(h0, .inr (9, [.ref y0, .ref y1, .ref y2, .ref y3, .ref y4, .int 0, .ref y5, .int 2, .int 0, .ref y6, .int 0, .ref y7, .int 0, .ref y8, .int 0]))] sz) := by
  refine Met.ofW (cc := cX9_interrupt) (maxL := 3) (ret := (some .boolean)) (by decide) rfl ?_
  intro p e s m args below meth c s₁ B hml hv
  obtain ⟨rfl, hsz, hP, hK, hD0, hN⟩ := hv
  have hx := B.exec
  have hb := B.bytes
  have hr := B.returns
  have hts := atoms_spec (ws := .code yX9_interrupt cX9_interrupt 3 (some .boolean) :: gw) B.pre
  have hg : ∀ w ∈ gw, w.before _ s = true := fun w h => hts w (List.mem_cons_of_mem _ h)
  have hown : s.vm.findClass RX9 = some m.cls := findClass_of_methodNamed B.named
  have hlocks := B.notSynchronized
  subst hsz
  have hD := hD0.self (sz := s.heap.size)
  generalize hAe : va_A [(h0, .inr (9, [.ref y0, .ref y1, .ref y2, .ref y3, .ref y4, .int 0, .ref y5, .int 2, .int 0, .ref y6, .int 0, .ref y7, .int 0, .ref y8, .int 0]))] s.heap.size = A at hD ⊢
  have hA : ∀ q : Nat, s.heap.size ≤ q → A q := fun q h => by rw [← hAe]; exact Or.inr h
  have hS : va_S A s.heap s.heap [] := va_S.rf
  have hP : va_P (dC, dI) vwCl [(h0, .inr (9, [.ref y0, .ref y1, .ref y2, .ref y3, .ref y4, .int 0, .ref y5, .int 2, .int 0, .ref y6, .int 0, .ref y7, .int 0, .ref y8, .int 0]))] s.heap := hP
  have hl := lv_entry ([.ref h0, .int v1]) (n := 3) (Nat.le_of_ble_eq_true rfl)
  rw [lg_entry_eq]
  generalize (lg_sl ([.ref h0, .int v1]) ++ List.replicate (3 - (lg_sl ([.ref h0, .int v1])).length) Slot.unset).toArray = ls at hl ⊢
  have hl : lv_has ls 3 [(0, .ref h0), (1, .int v1)] := hl
  refine lv_aload_n hx hb dX9_interrupt_0 rfl (lv_at hl 0 rfl) ?_
  refine lv_iload_n hx hb dX9_interrupt_1 rfl (lv_at hl 1 rfl) ?_
  have hPc := hP.sub (ws' := [(h0, .inr (9, [.ref y0, .ref y1, .ref y2, .ref y3, .ref y4, .int 0, .ref y5, .int 2, .int 0, .ref y6, .int 0, .ref y7, .int 0, .ref y8, .int 0]))]) [0] rfl
  have hDc := hD.sub (ws' := [(h0, .inr (9, [.ref y0, .ref y1, .ref y2, .ref y3, .ref y4, .int 0, .ref y5, .int 2, .int 0, .ref y6, .int 0, .ref y7, .int 0, .ref y8, .int 0]))]) [0] (by decide) rfl
  have hKc := hK.sub (tys' := []) [] rfl
  have hFc := va_free (wc := [(h0, .inr (9, [.ref y0, .ref y1, .ref y2, .ref y3, .ref y4, .int 0, .ref y5, .int 2, .int 0, .ref y6, .int 0, .ref y7, .int 0, .ref y8, .int 0]))]) hD hS hA [0] rfl
  refine va_callq (va_runV (As := [.int v1]) (rest := []) ⟨hx, hb, hml, hown, hg⟩ (c_X9_runAt l dC dI h0 y0 y1 y2 y3 y4 y5 y6 y7 y8 v1 s.heap.size ) (cwV 1 hg (gw_V gm_methodLink_RX9_134_yX9_runAt gm_instanceMethod_yX9_runAt gm_selects_RX9_yX9_runAt_yX9_runAt gm_initialized_RX9 gm_code_yX9_runAt_cX9_runAt_2_some_object_ErrandGuild_Run_) rfl rfl rfl (by decide +kernel) ⟨Nat.le_of_ble_eq_true rfl, Nat.le_of_ble_eq_true rfl⟩) ⟨fun a U g mk q => by obtain ⟨q0, q1, qP, qK, qD, qN⟩ := q; exact ⟨q0, q1, qP, va_K.moved (u := U) (U := U.calling g mk a) (Vm.Alike.refl U.vm) qK, qD, nx_same (u := U) (U := U.calling g mk a) rfl qN⟩, va_recv hKc hPc (ci := 9) (q0 := 0) rfl rfl, fun U hU hW => ⟨rfl, by rw [hU], by rw [hU]; exact hPc, va_K.moved hW.alike hKc, hDc.weaken (fun _ _ _ _ => trivial), nx_warm hW hN⟩⟩ rfl rfl hl.1 rfl (lv_room (Nat.le_of_ble_eq_true rfl)) dX9_interrupt_2 ⟨Nat.le_of_ble_eq_true rfl, Nat.le_of_ble_eq_true rfl⟩) hS (fun q _ h => hFc q h) hFc (fun r_1 u_2 t H1 locs ht hvm hw hB hz1 hk1 hS => ?_)
  have hP1 : va_P (dC, dI) vwCl [] H1 := nil_P
  have hD1 := nil_D (A := va_A [(h0, .inr (9, [.ref y0, .ref y1, .ref y2, .ref y3, .ref y4, .int 0, .ref y5, .int 2, .int 0, .ref y6, .int 0, .ref y7, .int 0, .ref y8, .int 0]))] s.heap.size)
  obtain ⟨hP, hD⟩ := va_join (wr := []) (w1 := []) hP hD [0] [] rfl rfl (by decide) (by decide +kernel) hk1 hFc hP1 hD1
  generalize H1 = H at hP hS ⊢
  have hP : va_P (dC, dI) vwCl [] H := hP
  have hD : va_D A [] := hD
  refine W.widen (k := 0) (n := 0) (Nat.le_of_ble_eq_true rfl) (Nat.le_of_ble_eq_true rfl) ?_
  obtain rfl : r_1 = none := hw
  refine W.eq (g2 := F0 m 5 ls [.null]) rfl ?_
  refine lv_astore_nN (lv' := [(2, .null), (0, .ref h0), (1, .int v1)]) hx hb dX9_interrupt_5 rfl hl (by decide) rfl (fun ls hl => ?_)
  refine lv_aload_nN hx hb dX9_interrupt_6 rfl (lv_at hl 0 rfl) ?_
  refine lv_ifnullN (tgt := 24) hx hb dX9_interrupt_7 (by decide) ?_
  refine lv_iconst (v := 0) hx hb dX9_interrupt_24 (by decide) ?_
  exact W.zret (v := 0) hx hb hr rfl (fun t ht hW => ⟨⟨0, (), rfl, rfl, trivial⟩, hS.F ht⟩) hS.2.2 dX9_interrupt_25

set_option maxHeartbeats 4000000 in
set_option maxRecDepth 100000 in
theorem c_X9_run (l : Launch) (dC : Nat → ClassId) (dI : Nat → Nat → Nat) (h0 : Nat) (y0 : Nat) (y1 : Nat) (y2 : Nat) (y3 : Nat) (y4 : Nat) (y5 : Nat) (y6 : Nat) (y7 : Nat) (y8 : Nat) (v1 : Int32) (v2 : Int32) (sz : Nat)  : Met l yX9_run (.code yX9_run cX9_run 4 (some .int) :: gw) ({ frames := 1, cells := 0, slots := 0, locals := 21 }) (va_Pc [.ref h0, .int v1, .int v2] (fun U => U.heap.size = sz ∧ va_P (dC, dI) vwCl [(h0, .inr (9, [.ref y0, .ref y1, .ref y2, .ref y3, .ref y4, .int 0, .ref y5, .int 2, .int 0, .ref y6, .int 0, .ref y7, .int 0, .ref y8, .int 0]))] U.heap ∧ va_K (dC, dI) vwCl [] U ∧ va_D (fun _ => True) [(h0, .inr (9, [.ref y0, .ref y1, .ref y2, .ref y3, .ref y4, .int 0, .ref y5, .int 2, .int 0, .ref y6, .int 0, .ref y7, .int 0, .ref y8, .int 0]))] ∧ nx U)) (va_Qi (fun (r : Int32) (u : Unit) => r = -1) (fun _ _ => True) (va_A [(h0, .inr (9, [.ref y0, .ref y1, .ref y2, .ref y3, .ref y4, .int 0, .ref y5, .int 2, .int 0, .ref y6, .int 0, .ref y7, .int 0, .ref y8, .int 0]))] sz)) 0 0 (va_A [(h0, .inr (9, [.ref y0, .ref y1, .ref y2, .ref y3, .ref y4, .int 0, .ref y5, .int 2, .int 0, .ref y6, .int 0, .ref y7, .int 0, .ref y8, .int 0]))] sz) := by
  refine Met.ofW (cc := cX9_run) (maxL := 4) (ret := (some .int)) (by decide) rfl ?_
  intro p e s m args below meth c s₁ B hml hv
  obtain ⟨rfl, hsz, hP, hK, hD0, hN⟩ := hv
  have hx := B.exec
  have hb := B.bytes
  have hr := B.returns
  have hts := atoms_spec (ws := .code yX9_run cX9_run 4 (some .int) :: gw) B.pre
  have hg : ∀ w ∈ gw, w.before _ s = true := fun w h => hts w (List.mem_cons_of_mem _ h)
  have hown : s.vm.findClass RX9 = some m.cls := findClass_of_methodNamed B.named
  have hlocks := B.notSynchronized
  subst hsz
  have hD := hD0.self (sz := s.heap.size)
  generalize hAe : va_A [(h0, .inr (9, [.ref y0, .ref y1, .ref y2, .ref y3, .ref y4, .int 0, .ref y5, .int 2, .int 0, .ref y6, .int 0, .ref y7, .int 0, .ref y8, .int 0]))] s.heap.size = A at hD ⊢
  have hA : ∀ q : Nat, s.heap.size ≤ q → A q := fun q h => by rw [← hAe]; exact Or.inr h
  have hS : va_S A s.heap s.heap [] := va_S.rf
  have hP : va_P (dC, dI) vwCl [(h0, .inr (9, [.ref y0, .ref y1, .ref y2, .ref y3, .ref y4, .int 0, .ref y5, .int 2, .int 0, .ref y6, .int 0, .ref y7, .int 0, .ref y8, .int 0]))] s.heap := hP
  have hl := lv_entry ([.ref h0, .int v1, .int v2]) (n := 4) (Nat.le_of_ble_eq_true rfl)
  rw [lg_entry_eq]
  generalize (lg_sl ([.ref h0, .int v1, .int v2]) ++ List.replicate (4 - (lg_sl ([.ref h0, .int v1, .int v2])).length) Slot.unset).toArray = ls at hl ⊢
  have hl : lv_has ls 4 [(0, .ref h0), (1, .int v1), (2, .int v2)] := hl
  refine lv_aload_n hx hb dX9_run_0 rfl (lv_at hl 0 rfl) ?_
  refine lv_iload_n hx hb dX9_run_1 rfl (lv_at hl 1 rfl) ?_
  have hPc := hP.sub (ws' := [(h0, .inr (9, [.ref y0, .ref y1, .ref y2, .ref y3, .ref y4, .int 0, .ref y5, .int 2, .int 0, .ref y6, .int 0, .ref y7, .int 0, .ref y8, .int 0]))]) [0] rfl
  have hDc := hD.sub (ws' := [(h0, .inr (9, [.ref y0, .ref y1, .ref y2, .ref y3, .ref y4, .int 0, .ref y5, .int 2, .int 0, .ref y6, .int 0, .ref y7, .int 0, .ref y8, .int 0]))]) [0] (by decide) rfl
  have hKc := hK.sub (tys' := []) [] rfl
  have hFc := va_free (wc := [(h0, .inr (9, [.ref y0, .ref y1, .ref y2, .ref y3, .ref y4, .int 0, .ref y5, .int 2, .int 0, .ref y6, .int 0, .ref y7, .int 0, .ref y8, .int 0]))]) hD hS hA [0] rfl
  refine va_callq (va_runV (As := [.int v1]) (rest := []) ⟨hx, hb, hml, hown, hg⟩ (c_X9_runAt l dC dI h0 y0 y1 y2 y3 y4 y5 y6 y7 y8 v1 s.heap.size ) (cwV 1 hg (gw_V gm_methodLink_RX9_134_yX9_runAt gm_instanceMethod_yX9_runAt gm_selects_RX9_yX9_runAt_yX9_runAt gm_initialized_RX9 gm_code_yX9_runAt_cX9_runAt_2_some_object_ErrandGuild_Run_) rfl rfl rfl (by decide +kernel) ⟨Nat.le_of_ble_eq_true rfl, Nat.le_of_ble_eq_true rfl⟩) ⟨fun a U g mk q => by obtain ⟨q0, q1, qP, qK, qD, qN⟩ := q; exact ⟨q0, q1, qP, va_K.moved (u := U) (U := U.calling g mk a) (Vm.Alike.refl U.vm) qK, qD, nx_same (u := U) (U := U.calling g mk a) rfl qN⟩, va_recv hKc hPc (ci := 9) (q0 := 0) rfl rfl, fun U hU hW => ⟨rfl, by rw [hU], by rw [hU]; exact hPc, va_K.moved hW.alike hKc, hDc.weaken (fun _ _ _ _ => trivial), nx_warm hW hN⟩⟩ rfl rfl hl.1 rfl (lv_room (Nat.le_of_ble_eq_true rfl)) dX9_run_2 ⟨Nat.le_of_ble_eq_true rfl, Nat.le_of_ble_eq_true rfl⟩) hS (fun q _ h => hFc q h) hFc (fun r_1 u_2 t H1 locs ht hvm hw hB hz1 hk1 hS => ?_)
  have hP1 : va_P (dC, dI) vwCl [] H1 := nil_P
  have hD1 := nil_D (A := va_A [(h0, .inr (9, [.ref y0, .ref y1, .ref y2, .ref y3, .ref y4, .int 0, .ref y5, .int 2, .int 0, .ref y6, .int 0, .ref y7, .int 0, .ref y8, .int 0]))] s.heap.size)
  obtain ⟨hP, hD⟩ := va_join (wr := []) (w1 := []) hP hD [0] [] rfl rfl (by decide) (by decide +kernel) hk1 hFc hP1 hD1
  generalize H1 = H at hP hS ⊢
  have hP : va_P (dC, dI) vwCl [] H := hP
  have hD : va_D A [] := hD
  refine W.widen (k := 0) (n := 0) (Nat.le_of_ble_eq_true rfl) (Nat.le_of_ble_eq_true rfl) ?_
  obtain rfl : r_1 = none := hw
  refine W.eq (g2 := F0 m 5 ls [.null]) rfl ?_
  refine lv_astore_nN (lv' := [(3, .null), (0, .ref h0), (1, .int v1), (2, .int v2)]) hx hb dX9_run_5 rfl hl (by decide) rfl (fun ls hl => ?_)
  refine lv_aload_nN hx hb dX9_run_6 rfl (lv_at hl 0 rfl) ?_
  refine lv_ifnonnullN hx hb dX9_run_7 ?_
  refine lv_iconst (v := -1) hx hb dX9_run_10 (by decide) ?_
  exact W.iret (v := -1) hx hb hr (fun t ht hW => ⟨⟨-1, (), rfl, rfl, trivial⟩, hS.F ht⟩) hS.2.2 dX9_run_11

set_option maxHeartbeats 4000000 in
set_option maxRecDepth 100000 in
theorem c_X9_failure (l : Launch) (dC : Nat → ClassId) (dI : Nat → Nat → Nat) (h0 : Nat) (y0 : Nat) (y1 : Nat) (y2 : Nat) (y3 : Nat) (y4 : Nat) (y5 : Nat) (y6 : Nat) (y7 : Nat) (y8 : Nat) (v1 : Int32) (v2 : Int32) (sz : Nat)  : Met l yX9_failure (.code yX9_failure cX9_failure 4 (some .int) :: gw) ({ frames := 2, cells := 0, slots := 0, locals := 43 }) (va_Pc [.ref h0, .int v1, .int v2] (fun U => U.heap.size = sz ∧ va_P (dC, dI) vwCl [(h0, .inr (9, [.ref y0, .ref y1, .ref y2, .ref y3, .ref y4, .int 0, .ref y5, .int 2, .int 0, .ref y6, .int 0, .ref y7, .int 0, .ref y8, .int 0]))] U.heap ∧ va_K (dC, dI) vwCl [] U ∧ va_D (fun _ => True) [(h0, .inr (9, [.ref y0, .ref y1, .ref y2, .ref y3, .ref y4, .int 0, .ref y5, .int 2, .int 0, .ref y6, .int 0, .ref y7, .int 0, .ref y8, .int 0]))] ∧ nx U)) (va_Qi (fun (r : Int32) (u : Unit) => r = -1) (fun _ _ => True) (va_A [(h0, .inr (9, [.ref y0, .ref y1, .ref y2, .ref y3, .ref y4, .int 0, .ref y5, .int 2, .int 0, .ref y6, .int 0, .ref y7, .int 0, .ref y8, .int 0]))] sz)) 0 0 (va_A [(h0, .inr (9, [.ref y0, .ref y1, .ref y2, .ref y3, .ref y4, .int 0, .ref y5, .int 2, .int 0, .ref y6, .int 0, .ref y7, .int 0, .ref y8, .int 0]))] sz) := by
  refine Met.ofW (cc := cX9_failure) (maxL := 4) (ret := (some .int)) (by decide) rfl ?_
  intro p e s m args below meth c s₁ B hml hv
  obtain ⟨rfl, hsz, hP, hK, hD0, hN⟩ := hv
  have hx := B.exec
  have hb := B.bytes
  have hr := B.returns
  have hts := atoms_spec (ws := .code yX9_failure cX9_failure 4 (some .int) :: gw) B.pre
  have hg : ∀ w ∈ gw, w.before _ s = true := fun w h => hts w (List.mem_cons_of_mem _ h)
  have hown : s.vm.findClass RX9 = some m.cls := findClass_of_methodNamed B.named
  have hlocks := B.notSynchronized
  subst hsz
  have hD := hD0.self (sz := s.heap.size)
  generalize hAe : va_A [(h0, .inr (9, [.ref y0, .ref y1, .ref y2, .ref y3, .ref y4, .int 0, .ref y5, .int 2, .int 0, .ref y6, .int 0, .ref y7, .int 0, .ref y8, .int 0]))] s.heap.size = A at hD ⊢
  have hA : ∀ q : Nat, s.heap.size ≤ q → A q := fun q h => by rw [← hAe]; exact Or.inr h
  have hS : va_S A s.heap s.heap [] := va_S.rf
  have hP : va_P (dC, dI) vwCl [(h0, .inr (9, [.ref y0, .ref y1, .ref y2, .ref y3, .ref y4, .int 0, .ref y5, .int 2, .int 0, .ref y6, .int 0, .ref y7, .int 0, .ref y8, .int 0]))] s.heap := hP
  have hl := lv_entry ([.ref h0, .int v1, .int v2]) (n := 4) (Nat.le_of_ble_eq_true rfl)
  rw [lg_entry_eq]
  generalize (lg_sl ([.ref h0, .int v1, .int v2]) ++ List.replicate (4 - (lg_sl ([.ref h0, .int v1, .int v2])).length) Slot.unset).toArray = ls at hl ⊢
  have hl : lv_has ls 4 [(0, .ref h0), (1, .int v1), (2, .int v2)] := hl
  refine lv_aload_n hx hb dX9_failure_0 rfl (lv_at hl 0 rfl) ?_
  refine lv_iload_n hx hb dX9_failure_1 rfl (lv_at hl 1 rfl) ?_
  have hPc := hP.sub (ws' := [(h0, .inr (9, [.ref y0, .ref y1, .ref y2, .ref y3, .ref y4, .int 0, .ref y5, .int 2, .int 0, .ref y6, .int 0, .ref y7, .int 0, .ref y8, .int 0]))]) [0] rfl
  have hDc := hD.sub (ws' := [(h0, .inr (9, [.ref y0, .ref y1, .ref y2, .ref y3, .ref y4, .int 0, .ref y5, .int 2, .int 0, .ref y6, .int 0, .ref y7, .int 0, .ref y8, .int 0]))]) [0] (by decide) rfl
  have hKc := hK.sub (tys' := []) [] rfl
  have hFc := va_free (wc := [(h0, .inr (9, [.ref y0, .ref y1, .ref y2, .ref y3, .ref y4, .int 0, .ref y5, .int 2, .int 0, .ref y6, .int 0, .ref y7, .int 0, .ref y8, .int 0]))]) hD hS hA [0] rfl
  refine va_callq (va_runV (As := [.int v1]) (rest := []) ⟨hx, hb, hml, hown, hg⟩ (c_X9_failedAt l dC dI h0 y0 y1 y2 y3 y4 y5 y6 y7 y8 v1 s.heap.size ) (cwV 1 hg (gw_V gm_methodLink_RX9_198_yX9_failedAt gm_instanceMethod_yX9_failedAt gm_selects_RX9_yX9_failedAt_yX9_failedAt gm_initialized_RX9 gm_code_yX9_failedAt_cX9_failedAt_3_some_object_ErrandGuild_Run_) rfl rfl rfl (by decide +kernel) ⟨Nat.le_of_ble_eq_true rfl, Nat.le_of_ble_eq_true rfl⟩) ⟨fun a U g mk q => by obtain ⟨q0, q1, qP, qK, qD, qN⟩ := q; exact ⟨q0, q1, qP, va_K.moved (u := U) (U := U.calling g mk a) (Vm.Alike.refl U.vm) qK, qD, nx_same (u := U) (U := U.calling g mk a) rfl qN⟩, va_recv hKc hPc (ci := 9) (q0 := 0) rfl rfl, fun U hU hW => ⟨rfl, by rw [hU], by rw [hU]; exact hPc, va_K.moved hW.alike hKc, hDc.weaken (fun _ _ _ _ => trivial), nx_warm hW hN⟩⟩ rfl rfl hl.1 rfl (lv_room (Nat.le_of_ble_eq_true rfl)) dX9_failure_2 ⟨Nat.le_of_ble_eq_true rfl, Nat.le_of_ble_eq_true rfl⟩) hS (fun q _ h => hFc q h) hFc (fun r_1 u_2 t H1 locs ht hvm hw hB hz1 hk1 hS => ?_)
  have hP1 : va_P (dC, dI) vwCl [] H1 := nil_P
  have hD1 := nil_D (A := va_A [(h0, .inr (9, [.ref y0, .ref y1, .ref y2, .ref y3, .ref y4, .int 0, .ref y5, .int 2, .int 0, .ref y6, .int 0, .ref y7, .int 0, .ref y8, .int 0]))] s.heap.size)
  obtain ⟨hP, hD⟩ := va_join (wr := []) (w1 := []) hP hD [0] [] rfl rfl (by decide) (by decide +kernel) hk1 hFc hP1 hD1
  generalize H1 = H at hP hS ⊢
  have hP : va_P (dC, dI) vwCl [] H := hP
  have hD : va_D A [] := hD
  refine W.widen (k := 0) (n := 0) (Nat.le_of_ble_eq_true rfl) (Nat.le_of_ble_eq_true rfl) ?_
  obtain rfl : r_1 = none := hw
  refine W.eq (g2 := F0 m 5 ls [.null]) rfl ?_
  refine lv_astore_nN (lv' := [(3, .null), (0, .ref h0), (1, .int v1), (2, .int v2)]) hx hb dX9_failure_5 rfl hl (by decide) rfl (fun ls hl => ?_)
  refine lv_aload_nN hx hb dX9_failure_6 rfl (lv_at hl 0 rfl) ?_
  refine lv_ifnonnullN hx hb dX9_failure_7 ?_
  refine lv_iconst (v := -1) hx hb dX9_failure_10 (by decide) ?_
  exact W.iret (v := -1) hx hb hr (fun t ht hW => ⟨⟨-1, (), rfl, rfl, trivial⟩, hS.F ht⟩) hS.2.2 dX9_failure_11

set_option maxHeartbeats 4000000 in
set_option maxRecDepth 100000 in
theorem c_X9_trace (l : Launch) (dC : Nat → ClassId) (dI : Nat → Nat → Nat) (h0 : Nat) (y0 : Nat) (y1 : Nat) (y2 : Nat) (y3 : Nat) (y4 : Nat) (y5 : Nat) (y6 : Nat) (y7 : Nat) (y8 : Nat) (v1 : Int32) (v2 : Int32) (sz : Nat)  : Met l yX9_trace (.code yX9_trace cX9_trace 6 (some .int) :: gw) ({ frames := 2, cells := 0, slots := 0, locals := 43 }) (va_Pc [.ref h0, .int v1, .int v2] (fun U => U.heap.size = sz ∧ va_P (dC, dI) vwCl [(h0, .inr (9, [.ref y0, .ref y1, .ref y2, .ref y3, .ref y4, .int 0, .ref y5, .int 2, .int 0, .ref y6, .int 0, .ref y7, .int 0, .ref y8, .int 0]))] U.heap ∧ va_K (dC, dI) vwCl [] U ∧ va_D (fun _ => True) [(h0, .inr (9, [.ref y0, .ref y1, .ref y2, .ref y3, .ref y4, .int 0, .ref y5, .int 2, .int 0, .ref y6, .int 0, .ref y7, .int 0, .ref y8, .int 0]))] ∧ nx U)) (va_Qi (fun (r : Int32) (u : Unit) => r = -1) (fun _ _ => True) (va_A [(h0, .inr (9, [.ref y0, .ref y1, .ref y2, .ref y3, .ref y4, .int 0, .ref y5, .int 2, .int 0, .ref y6, .int 0, .ref y7, .int 0, .ref y8, .int 0]))] sz)) 0 0 (va_A [(h0, .inr (9, [.ref y0, .ref y1, .ref y2, .ref y3, .ref y4, .int 0, .ref y5, .int 2, .int 0, .ref y6, .int 0, .ref y7, .int 0, .ref y8, .int 0]))] sz) := by
  refine Met.ofW (cc := cX9_trace) (maxL := 6) (ret := (some .int)) (by decide) rfl ?_
  intro p e s m args below meth c s₁ B hml hv
  obtain ⟨rfl, hsz, hP, hK, hD0, hN⟩ := hv
  have hx := B.exec
  have hb := B.bytes
  have hr := B.returns
  have hts := atoms_spec (ws := .code yX9_trace cX9_trace 6 (some .int) :: gw) B.pre
  have hg : ∀ w ∈ gw, w.before _ s = true := fun w h => hts w (List.mem_cons_of_mem _ h)
  have hown : s.vm.findClass RX9 = some m.cls := findClass_of_methodNamed B.named
  have hlocks := B.notSynchronized
  subst hsz
  have hD := hD0.self (sz := s.heap.size)
  generalize hAe : va_A [(h0, .inr (9, [.ref y0, .ref y1, .ref y2, .ref y3, .ref y4, .int 0, .ref y5, .int 2, .int 0, .ref y6, .int 0, .ref y7, .int 0, .ref y8, .int 0]))] s.heap.size = A at hD ⊢
  have hA : ∀ q : Nat, s.heap.size ≤ q → A q := fun q h => by rw [← hAe]; exact Or.inr h
  have hS : va_S A s.heap s.heap [] := va_S.rf
  have hP : va_P (dC, dI) vwCl [(h0, .inr (9, [.ref y0, .ref y1, .ref y2, .ref y3, .ref y4, .int 0, .ref y5, .int 2, .int 0, .ref y6, .int 0, .ref y7, .int 0, .ref y8, .int 0]))] s.heap := hP
  have hl := lv_entry ([.ref h0, .int v1, .int v2]) (n := 6) (Nat.le_of_ble_eq_true rfl)
  rw [lg_entry_eq]
  generalize (lg_sl ([.ref h0, .int v1, .int v2]) ++ List.replicate (6 - (lg_sl ([.ref h0, .int v1, .int v2])).length) Slot.unset).toArray = ls at hl ⊢
  have hl : lv_has ls 6 [(0, .ref h0), (1, .int v1), (2, .int v2)] := hl
  refine lv_aload_n hx hb dX9_trace_0 rfl (lv_at hl 0 rfl) ?_
  refine lv_iload_n hx hb dX9_trace_1 rfl (lv_at hl 1 rfl) ?_
  have hPc := hP.sub (ws' := [(h0, .inr (9, [.ref y0, .ref y1, .ref y2, .ref y3, .ref y4, .int 0, .ref y5, .int 2, .int 0, .ref y6, .int 0, .ref y7, .int 0, .ref y8, .int 0]))]) [0] rfl
  have hDc := hD.sub (ws' := [(h0, .inr (9, [.ref y0, .ref y1, .ref y2, .ref y3, .ref y4, .int 0, .ref y5, .int 2, .int 0, .ref y6, .int 0, .ref y7, .int 0, .ref y8, .int 0]))]) [0] (by decide) rfl
  have hKc := hK.sub (tys' := []) [] rfl
  have hFc := va_free (wc := [(h0, .inr (9, [.ref y0, .ref y1, .ref y2, .ref y3, .ref y4, .int 0, .ref y5, .int 2, .int 0, .ref y6, .int 0, .ref y7, .int 0, .ref y8, .int 0]))]) hD hS hA [0] rfl
  refine va_callq (va_runV (As := [.int v1]) (rest := []) ⟨hx, hb, hml, hown, hg⟩ (c_X9_failedAt l dC dI h0 y0 y1 y2 y3 y4 y5 y6 y7 y8 v1 s.heap.size ) (cwV 1 hg (gw_V gm_methodLink_RX9_198_yX9_failedAt gm_instanceMethod_yX9_failedAt gm_selects_RX9_yX9_failedAt_yX9_failedAt gm_initialized_RX9 gm_code_yX9_failedAt_cX9_failedAt_3_some_object_ErrandGuild_Run_) rfl rfl rfl (by decide +kernel) ⟨Nat.le_of_ble_eq_true rfl, Nat.le_of_ble_eq_true rfl⟩) ⟨fun a U g mk q => by obtain ⟨q0, q1, qP, qK, qD, qN⟩ := q; exact ⟨q0, q1, qP, va_K.moved (u := U) (U := U.calling g mk a) (Vm.Alike.refl U.vm) qK, qD, nx_same (u := U) (U := U.calling g mk a) rfl qN⟩, va_recv hKc hPc (ci := 9) (q0 := 0) rfl rfl, fun U hU hW => ⟨rfl, by rw [hU], by rw [hU]; exact hPc, va_K.moved hW.alike hKc, hDc.weaken (fun _ _ _ _ => trivial), nx_warm hW hN⟩⟩ rfl rfl hl.1 rfl (lv_room (Nat.le_of_ble_eq_true rfl)) dX9_trace_2 ⟨Nat.le_of_ble_eq_true rfl, Nat.le_of_ble_eq_true rfl⟩) hS (fun q _ h => hFc q h) hFc (fun r_1 u_2 t H1 locs ht hvm hw hB hz1 hk1 hS => ?_)
  have hP1 : va_P (dC, dI) vwCl [] H1 := nil_P
  have hD1 := nil_D (A := va_A [(h0, .inr (9, [.ref y0, .ref y1, .ref y2, .ref y3, .ref y4, .int 0, .ref y5, .int 2, .int 0, .ref y6, .int 0, .ref y7, .int 0, .ref y8, .int 0]))] s.heap.size)
  obtain ⟨hP, hD⟩ := va_join (wr := []) (w1 := []) hP hD [0] [] rfl rfl (by decide) (by decide +kernel) hk1 hFc hP1 hD1
  generalize H1 = H at hP hS ⊢
  have hP : va_P (dC, dI) vwCl [] H := hP
  have hD : va_D A [] := hD
  refine W.widen (k := 0) (n := 0) (Nat.le_of_ble_eq_true rfl) (Nat.le_of_ble_eq_true rfl) ?_
  obtain rfl : r_1 = none := hw
  refine W.eq (g2 := F0 m 5 ls [.null]) rfl ?_
  refine lv_astore_nN (lv' := [(3, .null), (0, .ref h0), (1, .int v1), (2, .int v2)]) hx hb dX9_trace_5 rfl hl (by decide) rfl (fun ls hl => ?_)
  refine lv_aload_nN hx hb dX9_trace_6 rfl (lv_at hl 0 rfl) ?_
  refine lv_ifnullN (tgt := 25) hx hb dX9_trace_7 (by decide) ?_
  refine lv_iconst (v := -1) hx hb dX9_trace_25 (by decide) ?_
  exact W.iret (v := -1) hx hb hr (fun t ht hW => ⟨⟨-1, (), rfl, rfl, trivial⟩, hS.F ht⟩) hS.2.2 dX9_trace_26

set_option maxHeartbeats 4000000 in
set_option maxRecDepth 100000 in
theorem c_X9_child (l : Launch) (dC : Nat → ClassId) (dI : Nat → Nat → Nat) (h0 : Nat) (y0 : Nat) (y1 : Nat) (y2 : Nat) (y3 : Nat) (y4 : Nat) (y5 : Nat) (y6 : Nat) (y7 : Nat) (y8 : Nat) (v1 : Int32) (v2 : Int32) (sz : Nat)  : Met l yX9_child (.code yX9_child cX9_child 6 (some .int) :: gw) ({ frames := 1, cells := 0, slots := 0, locals := 21 }) (va_Pc [.ref h0, .int v1, .int v2] (fun U => U.heap.size = sz ∧ va_P (dC, dI) vwCl [(h0, .inr (9, [.ref y0, .ref y1, .ref y2, .ref y3, .ref y4, .int 0, .ref y5, .int 2, .int 0, .ref y6, .int 0, .ref y7, .int 0, .ref y8, .int 0]))] U.heap ∧ va_K (dC, dI) vwCl [] U ∧ va_D (fun _ => True) [(h0, .inr (9, [.ref y0, .ref y1, .ref y2, .ref y3, .ref y4, .int 0, .ref y5, .int 2, .int 0, .ref y6, .int 0, .ref y7, .int 0, .ref y8, .int 0]))] ∧ nx U)) (va_Qi (fun (r : Int32) (u : Unit) => r = -1) (fun _ _ => True) (va_A [(h0, .inr (9, [.ref y0, .ref y1, .ref y2, .ref y3, .ref y4, .int 0, .ref y5, .int 2, .int 0, .ref y6, .int 0, .ref y7, .int 0, .ref y8, .int 0]))] sz)) 0 0 (va_A [(h0, .inr (9, [.ref y0, .ref y1, .ref y2, .ref y3, .ref y4, .int 0, .ref y5, .int 2, .int 0, .ref y6, .int 0, .ref y7, .int 0, .ref y8, .int 0]))] sz) := by
  refine Met.ofW (cc := cX9_child) (maxL := 6) (ret := (some .int)) (by decide) rfl ?_
  intro p e s m args below meth c s₁ B hml hv
  obtain ⟨rfl, hsz, hP, hK, hD0, hN⟩ := hv
  have hx := B.exec
  have hb := B.bytes
  have hr := B.returns
  have hts := atoms_spec (ws := .code yX9_child cX9_child 6 (some .int) :: gw) B.pre
  have hg : ∀ w ∈ gw, w.before _ s = true := fun w h => hts w (List.mem_cons_of_mem _ h)
  have hown : s.vm.findClass RX9 = some m.cls := findClass_of_methodNamed B.named
  have hlocks := B.notSynchronized
  subst hsz
  have hD := hD0.self (sz := s.heap.size)
  generalize hAe : va_A [(h0, .inr (9, [.ref y0, .ref y1, .ref y2, .ref y3, .ref y4, .int 0, .ref y5, .int 2, .int 0, .ref y6, .int 0, .ref y7, .int 0, .ref y8, .int 0]))] s.heap.size = A at hD ⊢
  have hA : ∀ q : Nat, s.heap.size ≤ q → A q := fun q h => by rw [← hAe]; exact Or.inr h
  have hS : va_S A s.heap s.heap [] := va_S.rf
  have hP : va_P (dC, dI) vwCl [(h0, .inr (9, [.ref y0, .ref y1, .ref y2, .ref y3, .ref y4, .int 0, .ref y5, .int 2, .int 0, .ref y6, .int 0, .ref y7, .int 0, .ref y8, .int 0]))] s.heap := hP
  have hl := lv_entry ([.ref h0, .int v1, .int v2]) (n := 6) (Nat.le_of_ble_eq_true rfl)
  rw [lg_entry_eq]
  generalize (lg_sl ([.ref h0, .int v1, .int v2]) ++ List.replicate (6 - (lg_sl ([.ref h0, .int v1, .int v2])).length) Slot.unset).toArray = ls at hl ⊢
  have hl : lv_has ls 6 [(0, .ref h0), (1, .int v1), (2, .int v2)] := hl
  refine lv_aload_n hx hb dX9_child_0 rfl (lv_at hl 0 rfl) ?_
  refine lv_iload_n hx hb dX9_child_1 rfl (lv_at hl 1 rfl) ?_
  have hPc := hP.sub (ws' := [(h0, .inr (9, [.ref y0, .ref y1, .ref y2, .ref y3, .ref y4, .int 0, .ref y5, .int 2, .int 0, .ref y6, .int 0, .ref y7, .int 0, .ref y8, .int 0]))]) [0] rfl
  have hDc := hD.sub (ws' := [(h0, .inr (9, [.ref y0, .ref y1, .ref y2, .ref y3, .ref y4, .int 0, .ref y5, .int 2, .int 0, .ref y6, .int 0, .ref y7, .int 0, .ref y8, .int 0]))]) [0] (by decide) rfl
  have hKc := hK.sub (tys' := []) [] rfl
  have hFc := va_free (wc := [(h0, .inr (9, [.ref y0, .ref y1, .ref y2, .ref y3, .ref y4, .int 0, .ref y5, .int 2, .int 0, .ref y6, .int 0, .ref y7, .int 0, .ref y8, .int 0]))]) hD hS hA [0] rfl
  refine va_callq (va_runV (As := [.int v1]) (rest := []) ⟨hx, hb, hml, hown, hg⟩ (c_X9_runAt l dC dI h0 y0 y1 y2 y3 y4 y5 y6 y7 y8 v1 s.heap.size ) (cwV 1 hg (gw_V gm_methodLink_RX9_134_yX9_runAt gm_instanceMethod_yX9_runAt gm_selects_RX9_yX9_runAt_yX9_runAt gm_initialized_RX9 gm_code_yX9_runAt_cX9_runAt_2_some_object_ErrandGuild_Run_) rfl rfl rfl (by decide +kernel) ⟨Nat.le_of_ble_eq_true rfl, Nat.le_of_ble_eq_true rfl⟩) ⟨fun a U g mk q => by obtain ⟨q0, q1, qP, qK, qD, qN⟩ := q; exact ⟨q0, q1, qP, va_K.moved (u := U) (U := U.calling g mk a) (Vm.Alike.refl U.vm) qK, qD, nx_same (u := U) (U := U.calling g mk a) rfl qN⟩, va_recv hKc hPc (ci := 9) (q0 := 0) rfl rfl, fun U hU hW => ⟨rfl, by rw [hU], by rw [hU]; exact hPc, va_K.moved hW.alike hKc, hDc.weaken (fun _ _ _ _ => trivial), nx_warm hW hN⟩⟩ rfl rfl hl.1 rfl (lv_room (Nat.le_of_ble_eq_true rfl)) dX9_child_2 ⟨Nat.le_of_ble_eq_true rfl, Nat.le_of_ble_eq_true rfl⟩) hS (fun q _ h => hFc q h) hFc (fun r_1 u_2 t H1 locs ht hvm hw hB hz1 hk1 hS => ?_)
  have hP1 : va_P (dC, dI) vwCl [] H1 := nil_P
  have hD1 := nil_D (A := va_A [(h0, .inr (9, [.ref y0, .ref y1, .ref y2, .ref y3, .ref y4, .int 0, .ref y5, .int 2, .int 0, .ref y6, .int 0, .ref y7, .int 0, .ref y8, .int 0]))] s.heap.size)
  obtain ⟨hP, hD⟩ := va_join (wr := []) (w1 := []) hP hD [0] [] rfl rfl (by decide) (by decide +kernel) hk1 hFc hP1 hD1
  generalize H1 = H at hP hS ⊢
  have hP : va_P (dC, dI) vwCl [] H := hP
  have hD : va_D A [] := hD
  refine W.widen (k := 0) (n := 0) (Nat.le_of_ble_eq_true rfl) (Nat.le_of_ble_eq_true rfl) ?_
  obtain rfl : r_1 = none := hw
  refine W.eq (g2 := F0 m 5 ls [.null]) rfl ?_
  refine lv_astore_nN (lv' := [(3, .null), (0, .ref h0), (1, .int v1), (2, .int v2)]) hx hb dX9_child_5 rfl hl (by decide) rfl (fun ls hl => ?_)
  refine lv_aload_nN hx hb dX9_child_6 rfl (lv_at hl 0 rfl) ?_
  refine lv_ifnullN (tgt := 25) hx hb dX9_child_7 (by decide) ?_
  refine lv_iconst (v := -1) hx hb dX9_child_25 (by decide) ?_
  exact W.iret (v := -1) hx hb hr (fun t ht hW => ⟨⟨-1, (), rfl, rfl, trivial⟩, hS.F ht⟩) hS.2.2 dX9_child_26

set_option maxHeartbeats 4000000 in
set_option maxRecDepth 100000 in
theorem c_X9_value (l : Launch) (dC : Nat → ClassId) (dI : Nat → Nat → Nat) (h0 : Nat) (y0 : Nat) (y1 : Nat) (y2 : Nat) (y3 : Nat) (y4 : Nat) (y5 : Nat) (y6 : Nat) (y7 : Nat) (y8 : Nat) (v1 : Int32) (v2 : Int32) (sz : Nat)  : Met l yX9_value (.code yX9_value cX9_value 4 (some .int) :: gw) ({ frames := 1, cells := 0, slots := 0, locals := 21 }) (va_Pc [.ref h0, .int v1, .int v2] (fun U => U.heap.size = sz ∧ va_P (dC, dI) vwCl [(h0, .inr (9, [.ref y0, .ref y1, .ref y2, .ref y3, .ref y4, .int 0, .ref y5, .int 2, .int 0, .ref y6, .int 0, .ref y7, .int 0, .ref y8, .int 0]))] U.heap ∧ va_K (dC, dI) vwCl [] U ∧ va_D (fun _ => True) [(h0, .inr (9, [.ref y0, .ref y1, .ref y2, .ref y3, .ref y4, .int 0, .ref y5, .int 2, .int 0, .ref y6, .int 0, .ref y7, .int 0, .ref y8, .int 0]))] ∧ nx U)) (va_Qi (fun (r : Int32) (u : Unit) => r = 0) (fun _ _ => True) (va_A [(h0, .inr (9, [.ref y0, .ref y1, .ref y2, .ref y3, .ref y4, .int 0, .ref y5, .int 2, .int 0, .ref y6, .int 0, .ref y7, .int 0, .ref y8, .int 0]))] sz)) 0 0 (va_A [(h0, .inr (9, [.ref y0, .ref y1, .ref y2, .ref y3, .ref y4, .int 0, .ref y5, .int 2, .int 0, .ref y6, .int 0, .ref y7, .int 0, .ref y8, .int 0]))] sz) := by
  refine Met.ofW (cc := cX9_value) (maxL := 4) (ret := (some .int)) (by decide) rfl ?_
  intro p e s m args below meth c s₁ B hml hv
  obtain ⟨rfl, hsz, hP, hK, hD0, hN⟩ := hv
  have hx := B.exec
  have hb := B.bytes
  have hr := B.returns
  have hts := atoms_spec (ws := .code yX9_value cX9_value 4 (some .int) :: gw) B.pre
  have hg : ∀ w ∈ gw, w.before _ s = true := fun w h => hts w (List.mem_cons_of_mem _ h)
  have hown : s.vm.findClass RX9 = some m.cls := findClass_of_methodNamed B.named
  have hlocks := B.notSynchronized
  subst hsz
  have hD := hD0.self (sz := s.heap.size)
  generalize hAe : va_A [(h0, .inr (9, [.ref y0, .ref y1, .ref y2, .ref y3, .ref y4, .int 0, .ref y5, .int 2, .int 0, .ref y6, .int 0, .ref y7, .int 0, .ref y8, .int 0]))] s.heap.size = A at hD ⊢
  have hA : ∀ q : Nat, s.heap.size ≤ q → A q := fun q h => by rw [← hAe]; exact Or.inr h
  have hS : va_S A s.heap s.heap [] := va_S.rf
  have hP : va_P (dC, dI) vwCl [(h0, .inr (9, [.ref y0, .ref y1, .ref y2, .ref y3, .ref y4, .int 0, .ref y5, .int 2, .int 0, .ref y6, .int 0, .ref y7, .int 0, .ref y8, .int 0]))] s.heap := hP
  have hl := lv_entry ([.ref h0, .int v1, .int v2]) (n := 4) (Nat.le_of_ble_eq_true rfl)
  rw [lg_entry_eq]
  generalize (lg_sl ([.ref h0, .int v1, .int v2]) ++ List.replicate (4 - (lg_sl ([.ref h0, .int v1, .int v2])).length) Slot.unset).toArray = ls at hl ⊢
  have hl : lv_has ls 4 [(0, .ref h0), (1, .int v1), (2, .int v2)] := hl
  refine lv_aload_n hx hb dX9_value_0 rfl (lv_at hl 0 rfl) ?_
  refine lv_iload_n hx hb dX9_value_1 rfl (lv_at hl 1 rfl) ?_
  have hPc := hP.sub (ws' := [(h0, .inr (9, [.ref y0, .ref y1, .ref y2, .ref y3, .ref y4, .int 0, .ref y5, .int 2, .int 0, .ref y6, .int 0, .ref y7, .int 0, .ref y8, .int 0]))]) [0] rfl
  have hDc := hD.sub (ws' := [(h0, .inr (9, [.ref y0, .ref y1, .ref y2, .ref y3, .ref y4, .int 0, .ref y5, .int 2, .int 0, .ref y6, .int 0, .ref y7, .int 0, .ref y8, .int 0]))]) [0] (by decide) rfl
  have hKc := hK.sub (tys' := []) [] rfl
  have hFc := va_free (wc := [(h0, .inr (9, [.ref y0, .ref y1, .ref y2, .ref y3, .ref y4, .int 0, .ref y5, .int 2, .int 0, .ref y6, .int 0, .ref y7, .int 0, .ref y8, .int 0]))]) hD hS hA [0] rfl
  refine va_callq (va_runV (As := [.int v1]) (rest := []) ⟨hx, hb, hml, hown, hg⟩ (c_X9_runAt l dC dI h0 y0 y1 y2 y3 y4 y5 y6 y7 y8 v1 s.heap.size ) (cwV 1 hg (gw_V gm_methodLink_RX9_134_yX9_runAt gm_instanceMethod_yX9_runAt gm_selects_RX9_yX9_runAt_yX9_runAt gm_initialized_RX9 gm_code_yX9_runAt_cX9_runAt_2_some_object_ErrandGuild_Run_) rfl rfl rfl (by decide +kernel) ⟨Nat.le_of_ble_eq_true rfl, Nat.le_of_ble_eq_true rfl⟩) ⟨fun a U g mk q => by obtain ⟨q0, q1, qP, qK, qD, qN⟩ := q; exact ⟨q0, q1, qP, va_K.moved (u := U) (U := U.calling g mk a) (Vm.Alike.refl U.vm) qK, qD, nx_same (u := U) (U := U.calling g mk a) rfl qN⟩, va_recv hKc hPc (ci := 9) (q0 := 0) rfl rfl, fun U hU hW => ⟨rfl, by rw [hU], by rw [hU]; exact hPc, va_K.moved hW.alike hKc, hDc.weaken (fun _ _ _ _ => trivial), nx_warm hW hN⟩⟩ rfl rfl hl.1 rfl (lv_room (Nat.le_of_ble_eq_true rfl)) dX9_value_2 ⟨Nat.le_of_ble_eq_true rfl, Nat.le_of_ble_eq_true rfl⟩) hS (fun q _ h => hFc q h) hFc (fun r_1 u_2 t H1 locs ht hvm hw hB hz1 hk1 hS => ?_)
  have hP1 : va_P (dC, dI) vwCl [] H1 := nil_P
  have hD1 := nil_D (A := va_A [(h0, .inr (9, [.ref y0, .ref y1, .ref y2, .ref y3, .ref y4, .int 0, .ref y5, .int 2, .int 0, .ref y6, .int 0, .ref y7, .int 0, .ref y8, .int 0]))] s.heap.size)
  obtain ⟨hP, hD⟩ := va_join (wr := []) (w1 := []) hP hD [0] [] rfl rfl (by decide) (by decide +kernel) hk1 hFc hP1 hD1
  generalize H1 = H at hP hS ⊢
  have hP : va_P (dC, dI) vwCl [] H := hP
  have hD : va_D A [] := hD
  refine W.widen (k := 0) (n := 0) (Nat.le_of_ble_eq_true rfl) (Nat.le_of_ble_eq_true rfl) ?_
  obtain rfl : r_1 = none := hw
  refine W.eq (g2 := F0 m 5 ls [.null]) rfl ?_
  refine lv_astore_nN (lv' := [(3, .null), (0, .ref h0), (1, .int v1), (2, .int v2)]) hx hb dX9_value_5 rfl hl (by decide) rfl (fun ls hl => ?_)
  refine lv_aload_nN hx hb dX9_value_6 rfl (lv_at hl 0 rfl) ?_
  refine lv_ifnullN (tgt := 17) hx hb dX9_value_7 (by decide) ?_
  refine lv_iconst (v := 0) hx hb dX9_value_17 (by decide) ?_
  exact W.iret (v := 0) hx hb hr (fun t ht hW => ⟨⟨0, (), rfl, rfl, trivial⟩, hS.F ht⟩) hS.2.2 dX9_value_18

set_option maxHeartbeats 4000000 in
set_option maxRecDepth 100000 in
theorem c_X9_remark (l : Launch) (dC : Nat → ClassId) (dI : Nat → Nat → Nat) (h0 : Nat) (y0 : Nat) (y1 : Nat) (y2 : Nat) (y3 : Nat) (y4 : Nat) (y5 : Nat) (y6 : Nat) (y7 : Nat) (y8 : Nat) (v1 : Int32) (v2 : Int32) (sz : Nat)  : Met l yX9_remark (.code yX9_remark cX9_remark 4 (some .int) :: gw) ({ frames := 1, cells := 0, slots := 0, locals := 21 }) (va_Pc [.ref h0, .int v1, .int v2] (fun U => U.heap.size = sz ∧ va_P (dC, dI) vwCl [(h0, .inr (9, [.ref y0, .ref y1, .ref y2, .ref y3, .ref y4, .int 0, .ref y5, .int 2, .int 0, .ref y6, .int 0, .ref y7, .int 0, .ref y8, .int 0]))] U.heap ∧ va_K (dC, dI) vwCl [] U ∧ va_D (fun _ => True) [(h0, .inr (9, [.ref y0, .ref y1, .ref y2, .ref y3, .ref y4, .int 0, .ref y5, .int 2, .int 0, .ref y6, .int 0, .ref y7, .int 0, .ref y8, .int 0]))] ∧ nx U)) (va_Qi (fun (r : Int32) (u : Unit) => r = 0) (fun _ _ => True) (va_A [(h0, .inr (9, [.ref y0, .ref y1, .ref y2, .ref y3, .ref y4, .int 0, .ref y5, .int 2, .int 0, .ref y6, .int 0, .ref y7, .int 0, .ref y8, .int 0]))] sz)) 0 0 (va_A [(h0, .inr (9, [.ref y0, .ref y1, .ref y2, .ref y3, .ref y4, .int 0, .ref y5, .int 2, .int 0, .ref y6, .int 0, .ref y7, .int 0, .ref y8, .int 0]))] sz) := by
  refine Met.ofW (cc := cX9_remark) (maxL := 4) (ret := (some .int)) (by decide) rfl ?_
  intro p e s m args below meth c s₁ B hml hv
  obtain ⟨rfl, hsz, hP, hK, hD0, hN⟩ := hv
  have hx := B.exec
  have hb := B.bytes
  have hr := B.returns
  have hts := atoms_spec (ws := .code yX9_remark cX9_remark 4 (some .int) :: gw) B.pre
  have hg : ∀ w ∈ gw, w.before _ s = true := fun w h => hts w (List.mem_cons_of_mem _ h)
  have hown : s.vm.findClass RX9 = some m.cls := findClass_of_methodNamed B.named
  have hlocks := B.notSynchronized
  subst hsz
  have hD := hD0.self (sz := s.heap.size)
  generalize hAe : va_A [(h0, .inr (9, [.ref y0, .ref y1, .ref y2, .ref y3, .ref y4, .int 0, .ref y5, .int 2, .int 0, .ref y6, .int 0, .ref y7, .int 0, .ref y8, .int 0]))] s.heap.size = A at hD ⊢
  have hA : ∀ q : Nat, s.heap.size ≤ q → A q := fun q h => by rw [← hAe]; exact Or.inr h
  have hS : va_S A s.heap s.heap [] := va_S.rf
  have hP : va_P (dC, dI) vwCl [(h0, .inr (9, [.ref y0, .ref y1, .ref y2, .ref y3, .ref y4, .int 0, .ref y5, .int 2, .int 0, .ref y6, .int 0, .ref y7, .int 0, .ref y8, .int 0]))] s.heap := hP
  have hl := lv_entry ([.ref h0, .int v1, .int v2]) (n := 4) (Nat.le_of_ble_eq_true rfl)
  rw [lg_entry_eq]
  generalize (lg_sl ([.ref h0, .int v1, .int v2]) ++ List.replicate (4 - (lg_sl ([.ref h0, .int v1, .int v2])).length) Slot.unset).toArray = ls at hl ⊢
  have hl : lv_has ls 4 [(0, .ref h0), (1, .int v1), (2, .int v2)] := hl
  refine lv_aload_n hx hb dX9_remark_0 rfl (lv_at hl 0 rfl) ?_
  refine lv_iload_n hx hb dX9_remark_1 rfl (lv_at hl 1 rfl) ?_
  have hPc := hP.sub (ws' := [(h0, .inr (9, [.ref y0, .ref y1, .ref y2, .ref y3, .ref y4, .int 0, .ref y5, .int 2, .int 0, .ref y6, .int 0, .ref y7, .int 0, .ref y8, .int 0]))]) [0] rfl
  have hDc := hD.sub (ws' := [(h0, .inr (9, [.ref y0, .ref y1, .ref y2, .ref y3, .ref y4, .int 0, .ref y5, .int 2, .int 0, .ref y6, .int 0, .ref y7, .int 0, .ref y8, .int 0]))]) [0] (by decide) rfl
  have hKc := hK.sub (tys' := []) [] rfl
  have hFc := va_free (wc := [(h0, .inr (9, [.ref y0, .ref y1, .ref y2, .ref y3, .ref y4, .int 0, .ref y5, .int 2, .int 0, .ref y6, .int 0, .ref y7, .int 0, .ref y8, .int 0]))]) hD hS hA [0] rfl
  refine va_callq (va_runV (As := [.int v1]) (rest := []) ⟨hx, hb, hml, hown, hg⟩ (c_X9_runAt l dC dI h0 y0 y1 y2 y3 y4 y5 y6 y7 y8 v1 s.heap.size ) (cwV 1 hg (gw_V gm_methodLink_RX9_134_yX9_runAt gm_instanceMethod_yX9_runAt gm_selects_RX9_yX9_runAt_yX9_runAt gm_initialized_RX9 gm_code_yX9_runAt_cX9_runAt_2_some_object_ErrandGuild_Run_) rfl rfl rfl (by decide +kernel) ⟨Nat.le_of_ble_eq_true rfl, Nat.le_of_ble_eq_true rfl⟩) ⟨fun a U g mk q => by obtain ⟨q0, q1, qP, qK, qD, qN⟩ := q; exact ⟨q0, q1, qP, va_K.moved (u := U) (U := U.calling g mk a) (Vm.Alike.refl U.vm) qK, qD, nx_same (u := U) (U := U.calling g mk a) rfl qN⟩, va_recv hKc hPc (ci := 9) (q0 := 0) rfl rfl, fun U hU hW => ⟨rfl, by rw [hU], by rw [hU]; exact hPc, va_K.moved hW.alike hKc, hDc.weaken (fun _ _ _ _ => trivial), nx_warm hW hN⟩⟩ rfl rfl hl.1 rfl (lv_room (Nat.le_of_ble_eq_true rfl)) dX9_remark_2 ⟨Nat.le_of_ble_eq_true rfl, Nat.le_of_ble_eq_true rfl⟩) hS (fun q _ h => hFc q h) hFc (fun r_1 u_2 t H1 locs ht hvm hw hB hz1 hk1 hS => ?_)
  have hP1 : va_P (dC, dI) vwCl [] H1 := nil_P
  have hD1 := nil_D (A := va_A [(h0, .inr (9, [.ref y0, .ref y1, .ref y2, .ref y3, .ref y4, .int 0, .ref y5, .int 2, .int 0, .ref y6, .int 0, .ref y7, .int 0, .ref y8, .int 0]))] s.heap.size)
  obtain ⟨hP, hD⟩ := va_join (wr := []) (w1 := []) hP hD [0] [] rfl rfl (by decide) (by decide +kernel) hk1 hFc hP1 hD1
  generalize H1 = H at hP hS ⊢
  have hP : va_P (dC, dI) vwCl [] H := hP
  have hD : va_D A [] := hD
  refine W.widen (k := 0) (n := 0) (Nat.le_of_ble_eq_true rfl) (Nat.le_of_ble_eq_true rfl) ?_
  obtain rfl : r_1 = none := hw
  refine W.eq (g2 := F0 m 5 ls [.null]) rfl ?_
  refine lv_astore_nN (lv' := [(3, .null), (0, .ref h0), (1, .int v1), (2, .int v2)]) hx hb dX9_remark_5 rfl hl (by decide) rfl (fun ls hl => ?_)
  refine lv_aload_nN hx hb dX9_remark_6 rfl (lv_at hl 0 rfl) ?_
  refine lv_ifnullN (tgt := 20) hx hb dX9_remark_7 (by decide) ?_
  refine lv_iconst (v := 0) hx hb dX9_remark_20 (by decide) ?_
  exact W.iret (v := 0) hx hb hr (fun t ht hW => ⟨⟨0, (), rfl, rfl, trivial⟩, hS.F ht⟩) hS.2.2 dX9_remark_21

set_option maxHeartbeats 4000000 in
set_option maxRecDepth 100000 in
theorem c_X9_seen (l : Launch) (dC : Nat → ClassId) (dI : Nat → Nat → Nat) (h0 : Nat) (y0 : Nat) (y1 : Nat) (y2 : Nat) (y3 : Nat) (y4 : Nat) (y5 : Nat) (y6 : Nat) (y7 : Nat) (y8 : Nat) (h1 : Nat) (w0 : Nat) (l5 : Int32) (lm : Int32) (v1 : Int32) (v2 : Int32) (sz : Nat)  : Met l yX9_seen (.code yX9_seen cX9_seen 3 (some .int) :: gw) ({ frames := 2, cells := 0, slots := 0, locals := 44 }) (va_Pc [.ref h0, .int v1, .int v2] (fun U => U.heap.size = sz ∧ va_P (dC, dI) vwCl [(h0, .inr (9, [.ref y0, .ref y1, .ref y2, .ref y3, .ref y4, .int 0, .ref y5, .int 2, .int 0, .ref y6, .int 0, .ref y7, .int 0, .ref y8, .int 0])), (y6, .inr (5, [.int l5, .ref h1])), (h1, .inr (0, [.int lm, .ref w0, .int 0]))] U.heap ∧ va_K (dC, dI) vwCl [] U ∧ va_D (fun _ => True) [(h0, .inr (9, [.ref y0, .ref y1, .ref y2, .ref y3, .ref y4, .int 0, .ref y5, .int 2, .int 0, .ref y6, .int 0, .ref y7, .int 0, .ref y8, .int 0])), (y6, .inr (5, [.int l5, .ref h1])), (h1, .inr (0, [.int lm, .ref w0, .int 0]))] ∧ nx U)) (va_Qi (fun (r : Int32) (u : Unit) => r = -1) (fun _ _ => True) (va_A [(h0, .inr (9, [.ref y0, .ref y1, .ref y2, .ref y3, .ref y4, .int 0, .ref y5, .int 2, .int 0, .ref y6, .int 0, .ref y7, .int 0, .ref y8, .int 0])), (y6, .inr (5, [.int l5, .ref h1])), (h1, .inr (0, [.int lm, .ref w0, .int 0]))] sz)) 0 0 (va_A [(h0, .inr (9, [.ref y0, .ref y1, .ref y2, .ref y3, .ref y4, .int 0, .ref y5, .int 2, .int 0, .ref y6, .int 0, .ref y7, .int 0, .ref y8, .int 0])), (y6, .inr (5, [.int l5, .ref h1])), (h1, .inr (0, [.int lm, .ref w0, .int 0]))] sz) := by
  refine Met.ofW (cc := cX9_seen) (maxL := 3) (ret := (some .int)) (by decide) rfl ?_
  intro p e s m args below meth c s₁ B hml hv
  obtain ⟨rfl, hsz, hP, hK, hD0, hN⟩ := hv
  have hx := B.exec
  have hb := B.bytes
  have hr := B.returns
  have hts := atoms_spec (ws := .code yX9_seen cX9_seen 3 (some .int) :: gw) B.pre
  have hg : ∀ w ∈ gw, w.before _ s = true := fun w h => hts w (List.mem_cons_of_mem _ h)
  have hown : s.vm.findClass RX9 = some m.cls := findClass_of_methodNamed B.named
  have hlocks := B.notSynchronized
  subst hsz
  have hD := hD0.self (sz := s.heap.size)
  generalize hAe : va_A [(h0, .inr (9, [.ref y0, .ref y1, .ref y2, .ref y3, .ref y4, .int 0, .ref y5, .int 2, .int 0, .ref y6, .int 0, .ref y7, .int 0, .ref y8, .int 0])), (y6, .inr (5, [.int l5, .ref h1])), (h1, .inr (0, [.int lm, .ref w0, .int 0]))] s.heap.size = A at hD ⊢
  have hA : ∀ q : Nat, s.heap.size ≤ q → A q := fun q h => by rw [← hAe]; exact Or.inr h
  have hS : va_S A s.heap s.heap [] := va_S.rf
  have hP : va_P (dC, dI) vwCl [(h0, .inr (9, [.ref y0, .ref y1, .ref y2, .ref y3, .ref y4, .int 0, .ref y5, .int 2, .int 0, .ref y6, .int 0, .ref y7, .int 0, .ref y8, .int 0])), (y6, .inr (5, [.int l5, .ref h1])), (h1, .inr (0, [.int lm, .ref w0, .int 0]))] s.heap := hP
  have hl := lv_entry ([.ref h0, .int v1, .int v2]) (n := 3) (Nat.le_of_ble_eq_true rfl)
  rw [lg_entry_eq]
  generalize (lg_sl ([.ref h0, .int v1, .int v2]) ++ List.replicate (3 - (lg_sl ([.ref h0, .int v1, .int v2])).length) Slot.unset).toArray = ls at hl ⊢
  have hl : lv_has ls 3 [(0, .ref h0), (1, .int v1), (2, .int v2)] := hl
  refine lv_aload_n hx hb dX9_seen_0 rfl (lv_at hl 0 rfl) ?_
  refine va_get (D := (dC, dI)) (ci := 9) (v := .ref y6) (C := RX9) (T := TX9) (N := 15) hx hb hg gb_9 hown hK hP 0 rfl rfl 9 (by decide) (hg _ gm_fieldLink_RX9_47_ErrandGuild_readings_LErrandGuild_Ledger_) (fun _ h9 => h9) rfl dX9_seen_1 ?_
  refine lv_iload_n hx hb dX9_seen_4 rfl (lv_at hl 1 rfl) ?_
  refine lv_iload_n hx hb dX9_seen_5 rfl (lv_at hl 2 rfl) ?_
  have hPc := hP.sub (ws' := [(y6, .inr (5, [.int l5, .ref h1])), (h1, .inr (0, [.int lm, .ref w0, .int 0]))]) [1, 2] rfl
  have hDc := hD.sub (ws' := [(y6, .inr (5, [.int l5, .ref h1])), (h1, .inr (0, [.int lm, .ref w0, .int 0]))]) [1, 2] (by decide) rfl
  have hKc := hK.sub (tys' := []) [] rfl
  have hFc := va_free (wc := [(y6, .inr (5, [.int l5, .ref h1])), (h1, .inr (0, [.int lm, .ref w0, .int 0]))]) hD hS hA [1, 2] rfl
  refine va_calli (va_runV (As := [.int v1, .int v2]) (rest := []) ⟨hx, hb, hml, hown, hg⟩ (c_X5_at l dC dI y6 h1 w0 l5 lm v1 v2 s.heap.size ) (cwV 2 hg (gw_V gm_methodLink_RX9_235_yX5_at gm_instanceMethod_yX5_at gm_selects_RX5_yX5_at_yX5_at gm_initialized_RX5 gm_code_yX5_at_cX5_at_4_some_int_) rfl rfl rfl (by decide +kernel) ⟨Nat.le_of_ble_eq_true rfl, Nat.le_of_ble_eq_true rfl⟩) ⟨fun a U g mk q => by obtain ⟨q0, q1, qP, qK, qD, qN⟩ := q; exact ⟨q0, q1, qP, va_K.moved (u := U) (U := U.calling g mk a) (Vm.Alike.refl U.vm) qK, qD, nx_same (u := U) (U := U.calling g mk a) rfl qN⟩, va_recv hKc hPc (ci := 5) (q0 := 0) rfl rfl, fun U hU hW => ⟨rfl, by rw [hU], by rw [hU]; exact hPc, va_K.moved hW.alike hKc, hDc.weaken (fun _ _ _ _ => trivial), nx_warm hW hN⟩⟩ rfl rfl hl.1 rfl (lv_room (Nat.le_of_ble_eq_true rfl)) dX9_seen_6 ⟨Nat.le_of_ble_eq_true rfl, Nat.le_of_ble_eq_true rfl⟩) hS (fun q _ h => hFc q h) hFc (fun r_1 u_2 t H1 locs ht hvm hw hB hz1 hk1 hS => ?_)
  have hP1 : va_P (dC, dI) vwCl [] H1 := nil_P
  have hD1 := nil_D (A := va_A [(y6, .inr (5, [.int l5, .ref h1])), (h1, .inr (0, [.int lm, .ref w0, .int 0]))] s.heap.size)
  obtain ⟨hP, hD⟩ := va_join (wr := [(h0, .inr (9, [.ref y0, .ref y1, .ref y2, .ref y3, .ref y4, .int 0, .ref y5, .int 2, .int 0, .ref y6, .int 0, .ref y7, .int 0, .ref y8, .int 0]))]) (w1 := []) hP hD [1, 2] [0] rfl rfl (by decide) (by decide +kernel) hk1 hFc hP1 hD1
  generalize H1 = H at hP hS ⊢
  have hP : va_P (dC, dI) vwCl [(h0, .inr (9, [.ref y0, .ref y1, .ref y2, .ref y3, .ref y4, .int 0, .ref y5, .int 2, .int 0, .ref y6, .int 0, .ref y7, .int 0, .ref y8, .int 0]))] H := hP
  have hD : va_D A [(h0, .inr (9, [.ref y0, .ref y1, .ref y2, .ref y3, .ref y4, .int 0, .ref y5, .int 2, .int 0, .ref y6, .int 0, .ref y7, .int 0, .ref y8, .int 0]))] := hD
  refine W.widen (k := 0) (n := 0) (Nat.le_of_ble_eq_true rfl) (Nat.le_of_ble_eq_true rfl) ?_
  obtain rfl : r_1 = -1 := hw
  exact W.iret (v := -1) hx hb hr (fun t ht hW => ⟨⟨-1, (), rfl, rfl, trivial⟩, hS.F ht⟩) hS.2.2 dX9_seen_9

set_option maxHeartbeats 4000000 in
set_option maxRecDepth 100000 in
theorem c_X9_handled (l : Launch) (dC : Nat → ClassId) (dI : Nat → Nat → Nat) (h0 : Nat) (y0 : Nat) (y1 : Nat) (y2 : Nat) (y3 : Nat) (y4 : Nat) (y5 : Nat) (y6 : Nat) (y7 : Nat) (y8 : Nat) (h1 : Nat) (w0 : Nat) (l5 : Int32) (lm : Int32) (v1 : Int32) (v2 : Int32) (sz : Nat)  : Met l yX9_handled (.code yX9_handled cX9_handled 3 (some .int) :: gw) ({ frames := 2, cells := 0, slots := 0, locals := 44 }) (va_Pc [.ref h0, .int v1, .int v2] (fun U => U.heap.size = sz ∧ va_P (dC, dI) vwCl [(h0, .inr (9, [.ref y0, .ref y1, .ref y2, .ref y3, .ref y4, .int 0, .ref y5, .int 2, .int 0, .ref y6, .int 0, .ref y7, .int 0, .ref y8, .int 0])), (y7, .inr (5, [.int l5, .ref h1])), (h1, .inr (0, [.int lm, .ref w0, .int 0]))] U.heap ∧ va_K (dC, dI) vwCl [] U ∧ va_D (fun _ => True) [(h0, .inr (9, [.ref y0, .ref y1, .ref y2, .ref y3, .ref y4, .int 0, .ref y5, .int 2, .int 0, .ref y6, .int 0, .ref y7, .int 0, .ref y8, .int 0])), (y7, .inr (5, [.int l5, .ref h1])), (h1, .inr (0, [.int lm, .ref w0, .int 0]))] ∧ nx U)) (va_Qi (fun (r : Int32) (u : Unit) => r = -1) (fun _ _ => True) (va_A [(h0, .inr (9, [.ref y0, .ref y1, .ref y2, .ref y3, .ref y4, .int 0, .ref y5, .int 2, .int 0, .ref y6, .int 0, .ref y7, .int 0, .ref y8, .int 0])), (y7, .inr (5, [.int l5, .ref h1])), (h1, .inr (0, [.int lm, .ref w0, .int 0]))] sz)) 0 0 (va_A [(h0, .inr (9, [.ref y0, .ref y1, .ref y2, .ref y3, .ref y4, .int 0, .ref y5, .int 2, .int 0, .ref y6, .int 0, .ref y7, .int 0, .ref y8, .int 0])), (y7, .inr (5, [.int l5, .ref h1])), (h1, .inr (0, [.int lm, .ref w0, .int 0]))] sz) := by
  refine Met.ofW (cc := cX9_handled) (maxL := 3) (ret := (some .int)) (by decide) rfl ?_
  intro p e s m args below meth c s₁ B hml hv
  obtain ⟨rfl, hsz, hP, hK, hD0, hN⟩ := hv
  have hx := B.exec
  have hb := B.bytes
  have hr := B.returns
  have hts := atoms_spec (ws := .code yX9_handled cX9_handled 3 (some .int) :: gw) B.pre
  have hg : ∀ w ∈ gw, w.before _ s = true := fun w h => hts w (List.mem_cons_of_mem _ h)
  have hown : s.vm.findClass RX9 = some m.cls := findClass_of_methodNamed B.named
  have hlocks := B.notSynchronized
  subst hsz
  have hD := hD0.self (sz := s.heap.size)
  generalize hAe : va_A [(h0, .inr (9, [.ref y0, .ref y1, .ref y2, .ref y3, .ref y4, .int 0, .ref y5, .int 2, .int 0, .ref y6, .int 0, .ref y7, .int 0, .ref y8, .int 0])), (y7, .inr (5, [.int l5, .ref h1])), (h1, .inr (0, [.int lm, .ref w0, .int 0]))] s.heap.size = A at hD ⊢
  have hA : ∀ q : Nat, s.heap.size ≤ q → A q := fun q h => by rw [← hAe]; exact Or.inr h
  have hS : va_S A s.heap s.heap [] := va_S.rf
  have hP : va_P (dC, dI) vwCl [(h0, .inr (9, [.ref y0, .ref y1, .ref y2, .ref y3, .ref y4, .int 0, .ref y5, .int 2, .int 0, .ref y6, .int 0, .ref y7, .int 0, .ref y8, .int 0])), (y7, .inr (5, [.int l5, .ref h1])), (h1, .inr (0, [.int lm, .ref w0, .int 0]))] s.heap := hP
  have hl := lv_entry ([.ref h0, .int v1, .int v2]) (n := 3) (Nat.le_of_ble_eq_true rfl)
  rw [lg_entry_eq]
  generalize (lg_sl ([.ref h0, .int v1, .int v2]) ++ List.replicate (3 - (lg_sl ([.ref h0, .int v1, .int v2])).length) Slot.unset).toArray = ls at hl ⊢
  have hl : lv_has ls 3 [(0, .ref h0), (1, .int v1), (2, .int v2)] := hl
  refine lv_aload_n hx hb dX9_handled_0 rfl (lv_at hl 0 rfl) ?_
  refine va_get (D := (dC, dI)) (ci := 9) (v := .ref y7) (C := RX9) (T := TX9) (N := 15) hx hb hg gb_9 hown hK hP 0 rfl rfl 11 (by decide) (hg _ gm_fieldLink_RX9_51_ErrandGuild_asked_LErrandGuild_Ledger_) (fun _ h9 => h9) rfl dX9_handled_1 ?_
  refine lv_iload_n hx hb dX9_handled_4 rfl (lv_at hl 1 rfl) ?_
  refine lv_iload_n hx hb dX9_handled_5 rfl (lv_at hl 2 rfl) ?_
  have hPc := hP.sub (ws' := [(y7, .inr (5, [.int l5, .ref h1])), (h1, .inr (0, [.int lm, .ref w0, .int 0]))]) [1, 2] rfl
  have hDc := hD.sub (ws' := [(y7, .inr (5, [.int l5, .ref h1])), (h1, .inr (0, [.int lm, .ref w0, .int 0]))]) [1, 2] (by decide) rfl
  have hKc := hK.sub (tys' := []) [] rfl
  have hFc := va_free (wc := [(y7, .inr (5, [.int l5, .ref h1])), (h1, .inr (0, [.int lm, .ref w0, .int 0]))]) hD hS hA [1, 2] rfl
  refine va_calli (va_runV (As := [.int v1, .int v2]) (rest := []) ⟨hx, hb, hml, hown, hg⟩ (c_X5_at l dC dI y7 h1 w0 l5 lm v1 v2 s.heap.size ) (cwV 2 hg (gw_V gm_methodLink_RX9_235_yX5_at gm_instanceMethod_yX5_at gm_selects_RX5_yX5_at_yX5_at gm_initialized_RX5 gm_code_yX5_at_cX5_at_4_some_int_) rfl rfl rfl (by decide +kernel) ⟨Nat.le_of_ble_eq_true rfl, Nat.le_of_ble_eq_true rfl⟩) ⟨fun a U g mk q => by obtain ⟨q0, q1, qP, qK, qD, qN⟩ := q; exact ⟨q0, q1, qP, va_K.moved (u := U) (U := U.calling g mk a) (Vm.Alike.refl U.vm) qK, qD, nx_same (u := U) (U := U.calling g mk a) rfl qN⟩, va_recv hKc hPc (ci := 5) (q0 := 0) rfl rfl, fun U hU hW => ⟨rfl, by rw [hU], by rw [hU]; exact hPc, va_K.moved hW.alike hKc, hDc.weaken (fun _ _ _ _ => trivial), nx_warm hW hN⟩⟩ rfl rfl hl.1 rfl (lv_room (Nat.le_of_ble_eq_true rfl)) dX9_handled_6 ⟨Nat.le_of_ble_eq_true rfl, Nat.le_of_ble_eq_true rfl⟩) hS (fun q _ h => hFc q h) hFc (fun r_1 u_2 t H1 locs ht hvm hw hB hz1 hk1 hS => ?_)
  have hP1 : va_P (dC, dI) vwCl [] H1 := nil_P
  have hD1 := nil_D (A := va_A [(y7, .inr (5, [.int l5, .ref h1])), (h1, .inr (0, [.int lm, .ref w0, .int 0]))] s.heap.size)
  obtain ⟨hP, hD⟩ := va_join (wr := [(h0, .inr (9, [.ref y0, .ref y1, .ref y2, .ref y3, .ref y4, .int 0, .ref y5, .int 2, .int 0, .ref y6, .int 0, .ref y7, .int 0, .ref y8, .int 0]))]) (w1 := []) hP hD [1, 2] [0] rfl rfl (by decide) (by decide +kernel) hk1 hFc hP1 hD1
  generalize H1 = H at hP hS ⊢
  have hP : va_P (dC, dI) vwCl [(h0, .inr (9, [.ref y0, .ref y1, .ref y2, .ref y3, .ref y4, .int 0, .ref y5, .int 2, .int 0, .ref y6, .int 0, .ref y7, .int 0, .ref y8, .int 0]))] H := hP
  have hD : va_D A [(h0, .inr (9, [.ref y0, .ref y1, .ref y2, .ref y3, .ref y4, .int 0, .ref y5, .int 2, .int 0, .ref y6, .int 0, .ref y7, .int 0, .ref y8, .int 0]))] := hD
  refine W.widen (k := 0) (n := 0) (Nat.le_of_ble_eq_true rfl) (Nat.le_of_ble_eq_true rfl) ?_
  obtain rfl : r_1 = -1 := hw
  exact W.iret (v := -1) hx hb hr (fun t ht hW => ⟨⟨-1, (), rfl, rfl, trivial⟩, hS.F ht⟩) hS.2.2 dX9_handled_9

set_option maxHeartbeats 4000000 in
set_option maxRecDepth 100000 in
theorem c_X9_order (l : Launch) (dC : Nat → ClassId) (dI : Nat → Nat → Nat) (h0 : Nat) (y0 : Nat) (y1 : Nat) (y2 : Nat) (y3 : Nat) (y4 : Nat) (y5 : Nat) (y6 : Nat) (y7 : Nat) (y8 : Nat) (w0 : Nat) (lm : Int32) (v1 : Int32) (sz : Nat)  : Met l yX9_order (.code yX9_order cX9_order 2 (some .int) :: gw) ({ frames := 1, cells := 0, slots := 0, locals := 21 }) (va_Pc [.ref h0, .int v1] (fun U => U.heap.size = sz ∧ va_P (dC, dI) vwCl [(h0, .inr (9, [.ref y0, .ref y1, .ref y2, .ref y3, .ref y4, .int 0, .ref y5, .int 2, .int 0, .ref y6, .int 0, .ref y7, .int 0, .ref y8, .int 0])), (y8, .inr (0, [.int lm, .ref w0, .int 0]))] U.heap ∧ va_K (dC, dI) vwCl [] U ∧ va_D (fun _ => True) [(h0, .inr (9, [.ref y0, .ref y1, .ref y2, .ref y3, .ref y4, .int 0, .ref y5, .int 2, .int 0, .ref y6, .int 0, .ref y7, .int 0, .ref y8, .int 0])), (y8, .inr (0, [.int lm, .ref w0, .int 0]))] ∧ nx U)) (va_Qi (fun (r : Int32) (u : Unit) => r = -1) (fun _ _ => True) (va_A [(h0, .inr (9, [.ref y0, .ref y1, .ref y2, .ref y3, .ref y4, .int 0, .ref y5, .int 2, .int 0, .ref y6, .int 0, .ref y7, .int 0, .ref y8, .int 0])), (y8, .inr (0, [.int lm, .ref w0, .int 0]))] sz)) 0 0 (va_A [(h0, .inr (9, [.ref y0, .ref y1, .ref y2, .ref y3, .ref y4, .int 0, .ref y5, .int 2, .int 0, .ref y6, .int 0, .ref y7, .int 0, .ref y8, .int 0])), (y8, .inr (0, [.int lm, .ref w0, .int 0]))] sz) := by
  refine Met.ofW (cc := cX9_order) (maxL := 2) (ret := (some .int)) (by decide) rfl ?_
  intro p e s m args below meth c s₁ B hml hv
  obtain ⟨rfl, hsz, hP, hK, hD0, hN⟩ := hv
  have hx := B.exec
  have hb := B.bytes
  have hr := B.returns
  have hts := atoms_spec (ws := .code yX9_order cX9_order 2 (some .int) :: gw) B.pre
  have hg : ∀ w ∈ gw, w.before _ s = true := fun w h => hts w (List.mem_cons_of_mem _ h)
  have hown : s.vm.findClass RX9 = some m.cls := findClass_of_methodNamed B.named
  have hlocks := B.notSynchronized
  subst hsz
  have hD := hD0.self (sz := s.heap.size)
  generalize hAe : va_A [(h0, .inr (9, [.ref y0, .ref y1, .ref y2, .ref y3, .ref y4, .int 0, .ref y5, .int 2, .int 0, .ref y6, .int 0, .ref y7, .int 0, .ref y8, .int 0])), (y8, .inr (0, [.int lm, .ref w0, .int 0]))] s.heap.size = A at hD ⊢
  have hA : ∀ q : Nat, s.heap.size ≤ q → A q := fun q h => by rw [← hAe]; exact Or.inr h
  have hS : va_S A s.heap s.heap [] := va_S.rf
  have hP : va_P (dC, dI) vwCl [(h0, .inr (9, [.ref y0, .ref y1, .ref y2, .ref y3, .ref y4, .int 0, .ref y5, .int 2, .int 0, .ref y6, .int 0, .ref y7, .int 0, .ref y8, .int 0])), (y8, .inr (0, [.int lm, .ref w0, .int 0]))] s.heap := hP
  have hl := lv_entry ([.ref h0, .int v1]) (n := 2) (Nat.le_of_ble_eq_true rfl)
  rw [lg_entry_eq]
  generalize (lg_sl ([.ref h0, .int v1]) ++ List.replicate (2 - (lg_sl ([.ref h0, .int v1])).length) Slot.unset).toArray = ls at hl ⊢
  have hl : lv_has ls 2 [(0, .ref h0), (1, .int v1)] := hl
  refine lv_aload_n hx hb dX9_order_0 rfl (lv_at hl 0 rfl) ?_
  refine va_get (D := (dC, dI)) (ci := 9) (v := .ref y8) (C := RX9) (T := TX9) (N := 15) hx hb hg gb_9 hown hK hP 0 rfl rfl 13 (by decide) (hg _ gm_fieldLink_RX9_57_ErrandGuild_turns_LErrandGuild_Cells_) (fun _ h9 => h9) rfl dX9_order_1 ?_
  refine lv_iload_n hx hb dX9_order_4 rfl (lv_at hl 1 rfl) ?_
  have hPc := hP.sub (ws' := [(y8, .inr (0, [.int lm, .ref w0, .int 0]))]) [1] rfl
  have hDc := hD.sub (ws' := [(y8, .inr (0, [.int lm, .ref w0, .int 0]))]) [1] (by decide) rfl
  have hKc := hK.sub (tys' := []) [] rfl
  have hFc := va_free (wc := [(y8, .inr (0, [.int lm, .ref w0, .int 0]))]) hD hS hA [1] rfl
  refine va_calli (va_runV (As := [.int v1]) (rest := []) ⟨hx, hb, hml, hown, hg⟩ (c_X0_has l dC dI y8 w0 lm v1 s.heap.size ) (cwV 1 hg (gw_V gm_methodLink_RX9_241_yX0_has gm_instanceMethod_yX0_has gm_selects_RX0_yX0_has_yX0_has gm_initialized_RX0 gm_code_yX0_has_cX0_has_2_some_boolean_) rfl rfl rfl (by decide +kernel) ⟨Nat.le_of_ble_eq_true rfl, Nat.le_of_ble_eq_true rfl⟩) ⟨fun a U g mk q => by obtain ⟨q0, q1, qP, qK, qD, qN⟩ := q; exact ⟨q0, q1, qP, va_K.moved (u := U) (U := U.calling g mk a) (Vm.Alike.refl U.vm) qK, qD, nx_same (u := U) (U := U.calling g mk a) rfl qN⟩, va_recv hKc hPc (ci := 0) (q0 := 0) rfl rfl, fun U hU hW => ⟨rfl, by rw [hU], by rw [hU]; exact hPc, va_K.moved hW.alike hKc, hDc.weaken (fun _ _ _ _ => trivial), nx_warm hW hN⟩⟩ rfl rfl hl.1 rfl (lv_room (Nat.le_of_ble_eq_true rfl)) dX9_order_5 ⟨Nat.le_of_ble_eq_true rfl, Nat.le_of_ble_eq_true rfl⟩) hS (fun q _ h => hFc q h) hFc (fun r_1 u_2 t H1 locs ht hvm hw hB hz1 hk1 hS => ?_)
  have hP1 : va_P (dC, dI) vwCl [] H1 := nil_P
  have hD1 := nil_D (A := va_A [(y8, .inr (0, [.int lm, .ref w0, .int 0]))] s.heap.size)
  obtain ⟨hP, hD⟩ := va_join (wr := [(h0, .inr (9, [.ref y0, .ref y1, .ref y2, .ref y3, .ref y4, .int 0, .ref y5, .int 2, .int 0, .ref y6, .int 0, .ref y7, .int 0, .ref y8, .int 0]))]) (w1 := []) hP hD [1] [0] rfl rfl (by decide) (by decide +kernel) hk1 hFc hP1 hD1
  generalize H1 = H at hP hS ⊢
  have hP : va_P (dC, dI) vwCl [(h0, .inr (9, [.ref y0, .ref y1, .ref y2, .ref y3, .ref y4, .int 0, .ref y5, .int 2, .int 0, .ref y6, .int 0, .ref y7, .int 0, .ref y8, .int 0]))] H := hP
  have hD : va_D A [(h0, .inr (9, [.ref y0, .ref y1, .ref y2, .ref y3, .ref y4, .int 0, .ref y5, .int 2, .int 0, .ref y6, .int 0, .ref y7, .int 0, .ref y8, .int 0]))] := hD
  refine W.widen (k := 0) (n := 0) (Nat.le_of_ble_eq_true rfl) (Nat.le_of_ble_eq_true rfl) ?_
  obtain rfl : r_1 = 0 := hw
  refine lv_if_eq (tgt := 22) hx hb dX9_order_8 (by decide) (fun _ => ?_) (fun c_3 => absurd c_3 (by decide))
  refine lv_iconst (v := -1) hx hb dX9_order_22 (by decide) ?_
  exact W.iret (v := -1) hx hb hr (fun t ht hW => ⟨⟨-1, (), rfl, rfl, trivial⟩, hS.F ht⟩) hS.2.2 dX9_order_23

set_option maxHeartbeats 4000000 in
set_option maxRecDepth 100000 in
theorem c_X9_runsThatAre (l : Launch) (dC : Nat → ClassId) (dI : Nat → Nat → Nat) (h0 : Nat) (y0 : Nat) (y1 : Nat) (y2 : Nat) (y3 : Nat) (y4 : Nat) (y5 : Nat) (y6 : Nat) (y7 : Nat) (y8 : Nat) (v1 : Int32) (sz : Nat)  : Met l yX9_runsThatAre (.code yX9_runsThatAre cX9_runsThatAre 5 (some .int) :: gw) ({ frames := 0, cells := 0, slots := 0, locals := 0 }) (va_Pc [.ref h0, .int v1] (fun U => U.heap.size = sz ∧ va_P (dC, dI) vwCl [(h0, .inr (9, [.ref y0, .ref y1, .ref y2, .ref y3, .ref y4, .int 0, .ref y5, .int 2, .int 0, .ref y6, .int 0, .ref y7, .int 0, .ref y8, .int 0]))] U.heap ∧ va_K (dC, dI) vwCl [] U ∧ va_D (fun _ => True) [(h0, .inr (9, [.ref y0, .ref y1, .ref y2, .ref y3, .ref y4, .int 0, .ref y5, .int 2, .int 0, .ref y6, .int 0, .ref y7, .int 0, .ref y8, .int 0]))] ∧ nx U)) (va_Qi (fun (r : Int32) (u : Unit) => r = 0) (fun _ _ => True) (va_A [(h0, .inr (9, [.ref y0, .ref y1, .ref y2, .ref y3, .ref y4, .int 0, .ref y5, .int 2, .int 0, .ref y6, .int 0, .ref y7, .int 0, .ref y8, .int 0]))] sz)) 0 0 (va_A [(h0, .inr (9, [.ref y0, .ref y1, .ref y2, .ref y3, .ref y4, .int 0, .ref y5, .int 2, .int 0, .ref y6, .int 0, .ref y7, .int 0, .ref y8, .int 0]))] sz) := by
  refine Met.ofW (cc := cX9_runsThatAre) (maxL := 5) (ret := (some .int)) (by decide) rfl ?_
  intro p e s m args below meth c s₁ B hml hv
  obtain ⟨rfl, hsz, hP, hK, hD0, hN⟩ := hv
  have hx := B.exec
  have hb := B.bytes
  have hr := B.returns
  have hts := atoms_spec (ws := .code yX9_runsThatAre cX9_runsThatAre 5 (some .int) :: gw) B.pre
  have hg : ∀ w ∈ gw, w.before _ s = true := fun w h => hts w (List.mem_cons_of_mem _ h)
  have hown : s.vm.findClass RX9 = some m.cls := findClass_of_methodNamed B.named
  have hlocks := B.notSynchronized
  subst hsz
  have hD := hD0.self (sz := s.heap.size)
  generalize hAe : va_A [(h0, .inr (9, [.ref y0, .ref y1, .ref y2, .ref y3, .ref y4, .int 0, .ref y5, .int 2, .int 0, .ref y6, .int 0, .ref y7, .int 0, .ref y8, .int 0]))] s.heap.size = A at hD ⊢
  have hA : ∀ q : Nat, s.heap.size ≤ q → A q := fun q h => by rw [← hAe]; exact Or.inr h
  have hS : va_S A s.heap s.heap [] := va_S.rf
  have hP : va_P (dC, dI) vwCl [(h0, .inr (9, [.ref y0, .ref y1, .ref y2, .ref y3, .ref y4, .int 0, .ref y5, .int 2, .int 0, .ref y6, .int 0, .ref y7, .int 0, .ref y8, .int 0]))] s.heap := hP
  have hl := lv_entry ([.ref h0, .int v1]) (n := 5) (Nat.le_of_ble_eq_true rfl)
  rw [lg_entry_eq]
  generalize (lg_sl ([.ref h0, .int v1]) ++ List.replicate (5 - (lg_sl ([.ref h0, .int v1])).length) Slot.unset).toArray = ls at hl ⊢
  have hl : lv_has ls 5 [(0, .ref h0), (1, .int v1)] := hl
  refine lv_iconst (v := 0) hx hb dX9_runsThatAre_0 (by decide) ?_
  refine lv_istore_n (lv' := [(2, .int 0), (0, .ref h0), (1, .int v1)]) hx hb dX9_runsThatAre_1 rfl hl (by decide) rfl (fun ls hl => ?_)
  refine lv_iconst (v := 0) hx hb dX9_runsThatAre_2 (by decide) ?_
  refine lv_istore_n (lv' := [(3, .int 0), (2, .int 0), (0, .ref h0), (1, .int v1)]) hx hb dX9_runsThatAre_3 rfl hl (by decide) rfl (fun ls hl => ?_)
  refine lv_iload_n hx hb dX9_runsThatAre_4 rfl (lv_at hl 0 rfl) ?_
  refine lv_aload_n hx hb dX9_runsThatAre_5 rfl (lv_at hl 2 rfl) ?_
  refine va_get (D := (dC, dI)) (ci := 9) (v := .int 0) (C := RX9) (T := TX9) (N := 15) hx hb hg gb_9 hown hK hP 0 rfl rfl 5 (by decide) (hg _ gm_fieldLink_RX9_66_ErrandGuild_runCount_I_) (fun _ h9 => h9) rfl dX9_runsThatAre_6 ?_
  refine lv_icmp_ge (tgt := 42) hx hb dX9_runsThatAre_9 (by decide) (fun _ => ?_) (fun c_1 => absurd c_1 (by decide))
  refine lv_iload_n hx hb dX9_runsThatAre_42 rfl (lv_at hl 1 rfl) ?_
  exact W.iret (v := 0) hx hb hr (fun t ht hW => ⟨⟨0, (), rfl, rfl, trivial⟩, hS.F ht⟩) hS.2.2 dX9_runsThatAre_43

set_option maxHeartbeats 4000000 in
set_option maxRecDepth 100000 in
theorem c_X9_runOnThread (l : Launch) (dC : Nat → ClassId) (dI : Nat → Nat → Nat) (h0 : Nat) (y0 : Nat) (y1 : Nat) (y2 : Nat) (y3 : Nat) (y4 : Nat) (y5 : Nat) (y6 : Nat) (y7 : Nat) (y8 : Nat) (k5 : ClassId) (v1 : Int32) (sz : Nat)  : Met l yX9_runOnThread (.code yX9_runOnThread cX9_runOnThread 3 (some .int) :: gw) ({ frames := 0, cells := 0, slots := 0, locals := 0 }) (va_Pc [.ref h0, .int v1] (fun U => U.heap.size = sz ∧ va_P (dC, dI) vwCl [(h0, .inr (9, [.ref y0, .ref y1, .ref y2, .ref y3, .ref y4, .int 0, .ref y5, .int 2, .int 0, .ref y6, .int 0, .ref y7, .int 0, .ref y8, .int 0])), (y5, .inl (k5, 6, .inr (.inr (.inr (.inr (fun _ => none))))))] U.heap ∧ va_K (dC, dI) vwCl [(k5, .object RX7)] U ∧ va_D (fun _ => True) [(h0, .inr (9, [.ref y0, .ref y1, .ref y2, .ref y3, .ref y4, .int 0, .ref y5, .int 2, .int 0, .ref y6, .int 0, .ref y7, .int 0, .ref y8, .int 0])), (y5, .inl (k5, 6, .inr (.inr (.inr (.inr (fun _ => none))))))] ∧ nx U)) (va_Qi (fun (r : Int32) (u : Unit) => r = -1) (fun _ _ => True) (va_A [(h0, .inr (9, [.ref y0, .ref y1, .ref y2, .ref y3, .ref y4, .int 0, .ref y5, .int 2, .int 0, .ref y6, .int 0, .ref y7, .int 0, .ref y8, .int 0])), (y5, .inl (k5, 6, .inr (.inr (.inr (.inr (fun _ => none))))))] sz)) 0 0 (va_A [(h0, .inr (9, [.ref y0, .ref y1, .ref y2, .ref y3, .ref y4, .int 0, .ref y5, .int 2, .int 0, .ref y6, .int 0, .ref y7, .int 0, .ref y8, .int 0])), (y5, .inl (k5, 6, .inr (.inr (.inr (.inr (fun _ => none))))))] sz) := by
  refine Met.ofW (cc := cX9_runOnThread) (maxL := 3) (ret := (some .int)) (by decide) rfl ?_
  intro p e s m args below meth c s₁ B hml hv
  obtain ⟨rfl, hsz, hP, hK, hD0, hN⟩ := hv
  have hx := B.exec
  have hb := B.bytes
  have hr := B.returns
  have hts := atoms_spec (ws := .code yX9_runOnThread cX9_runOnThread 3 (some .int) :: gw) B.pre
  have hg : ∀ w ∈ gw, w.before _ s = true := fun w h => hts w (List.mem_cons_of_mem _ h)
  have hown : s.vm.findClass RX9 = some m.cls := findClass_of_methodNamed B.named
  have hlocks := B.notSynchronized
  subst hsz
  have hD := hD0.self (sz := s.heap.size)
  generalize hAe : va_A [(h0, .inr (9, [.ref y0, .ref y1, .ref y2, .ref y3, .ref y4, .int 0, .ref y5, .int 2, .int 0, .ref y6, .int 0, .ref y7, .int 0, .ref y8, .int 0])), (y5, .inl (k5, 6, .inr (.inr (.inr (.inr (fun _ => none))))))] s.heap.size = A at hD ⊢
  have hA : ∀ q : Nat, s.heap.size ≤ q → A q := fun q h => by rw [← hAe]; exact Or.inr h
  have hS : va_S A s.heap s.heap [] := va_S.rf
  have hP : va_P (dC, dI) vwCl [(h0, .inr (9, [.ref y0, .ref y1, .ref y2, .ref y3, .ref y4, .int 0, .ref y5, .int 2, .int 0, .ref y6, .int 0, .ref y7, .int 0, .ref y8, .int 0])), (y5, .inl (k5, 6, .inr (.inr (.inr (.inr (fun _ => none))))))] s.heap := hP
  have hl := lv_entry ([.ref h0, .int v1]) (n := 3) (Nat.le_of_ble_eq_true rfl)
  rw [lg_entry_eq]
  generalize (lg_sl ([.ref h0, .int v1]) ++ List.replicate (3 - (lg_sl ([.ref h0, .int v1])).length) Slot.unset).toArray = ls at hl ⊢
  have hl : lv_has ls 3 [(0, .ref h0), (1, .int v1)] := hl
  refine lv_iload_n hx hb dX9_runOnThread_0 rfl (lv_at hl 1 rfl) ?_
  refine lv_bipush (v := 16) hx hb dX9_runOnThread_1 (by decide) ?_
  refine lv_icmp_lt (tgt := 17) hx hb dX9_runOnThread_3 (by decide) (fun c_1 => ?_) (fun c_1 => ?_)
  · simp only [i_lt, i_le, i_eq, ti_16] at c_1
    refine lv_iconst (v := -1) hx hb dX9_runOnThread_17 (by decide) ?_
    exact W.iret (v := -1) hx hb hr (fun t ht hW => ⟨⟨-1, (), rfl, rfl, trivial⟩, hS.F ht⟩) hS.2.2 dX9_runOnThread_18
  · simp only [i_lt, i_le, i_eq, ti_16] at c_1
    refine lv_iload_n hx hb dX9_runOnThread_6 rfl (lv_at hl 1 rfl) ?_
    refine lv_bipush (v := 16) hx hb dX9_runOnThread_7 (by decide) ?_
    refine lv_aload_n hx hb dX9_runOnThread_9 rfl (lv_at hl 0 rfl) ?_
    refine va_get (D := (dC, dI)) (ci := 9) (v := .int 2) (C := RX9) (T := TX9) (N := 15) hx hb hg gb_9 hown hK hP 0 rfl rfl 7 (by decide) (hg _ gm_fieldLink_RX9_38_ErrandGuild_threadCount_I_) (fun _ h9 => h9) rfl dX9_runOnThread_10 ?_
    refine lv_iadd hx hb dX9_runOnThread_13 ?_
    refine lv_topi (fun z_2 ez_2 => ?_)
    obtain rfl : z_2 = 18 := ez_2.trans (by decide)
    refine lv_icmp_lt (tgt := 19) hx hb dX9_runOnThread_14 (by decide) (fun c_3 => ?_) (fun c_3 => ?_)
    · simp only [i_lt, i_le, i_eq, ti_18] at c_3
      refine lv_iload_n hx hb dX9_runOnThread_19 rfl (lv_at hl 1 rfl) ?_
      refine lv_bipush (v := 16) hx hb dX9_runOnThread_20 (by decide) ?_
      refine lv_isub hx hb dX9_runOnThread_22 ?_
      refine lv_topi (fun z_4 ez_4 => ?_)
      have tz_4 : z_4.toInt = v1.toInt - 16 := ar_sub rfl ti_16 ez_4 (by omega)
      refine lv_istore_n (lv' := [(2, .int z_4), (0, .ref h0), (1, .int v1)]) hx hb dX9_runOnThread_23 rfl hl (by decide) rfl (fun ls hl => ?_)
      refine lv_iload_n hx hb dX9_runOnThread_24 rfl (lv_at hl 0 rfl) ?_
      refine lv_bipush (v := 6) hx hb dX9_runOnThread_25 (by decide) ?_
      refine lv_icmp_ge (tgt := 39) hx hb dX9_runOnThread_27 (by decide) (fun c_5 => ?_) (fun c_5 => ?_)
      · simp only [i_lt, i_le, i_eq, ti_6] at c_5
        refine lv_iconst (v := -1) hx hb dX9_runOnThread_39 (by decide) ?_
        exact W.iret (v := -1) hx hb hr (fun t ht hW => ⟨⟨-1, (), rfl, rfl, trivial⟩, hS.F ht⟩) hS.2.2 dX9_runOnThread_40
      · simp only [i_lt, i_le, i_eq, ti_6] at c_5
        refine lv_aload_n hx hb dX9_runOnThread_30 rfl (lv_at hl 1 rfl) ?_
        refine va_get (D := (dC, dI)) (ci := 9) (v := .ref y5) (C := RX9) (T := TX9) (N := 15) hx hb hg gb_9 hown hK hP 0 rfl rfl 6 (by decide) (hg _ gm_fieldLink_RX9_35_ErrandGuild_onThreads_ALErrandGuild_Run_) (fun _ h9 => h9) rfl dX9_runOnThread_31 ?_
        refine lv_iload_n hx hb dX9_runOnThread_34 rfl (lv_at hl 0 rfl) ?_
        refine va_aldq hx hb hK hP 1 0 rfl rfl (vp_in_iff.mpr ⟨by omega, by omega⟩) dX9_runOnThread_35 ?_
        refine W.eq (g2 := F0 m 36 ls [.null]) rfl ?_
        refine lv_ifnonnullN hx hb dX9_runOnThread_36 ?_
        refine lv_iconst (v := -1) hx hb dX9_runOnThread_39 (by decide) ?_
        exact W.iret (v := -1) hx hb hr (fun t ht hW => ⟨⟨-1, (), rfl, rfl, trivial⟩, hS.F ht⟩) hS.2.2 dX9_runOnThread_40
    · simp only [i_lt, i_le, i_eq, ti_18] at c_3
      refine lv_iconst (v := -1) hx hb dX9_runOnThread_17 (by decide) ?_
      exact W.iret (v := -1) hx hb hr (fun t ht hW => ⟨⟨-1, (), rfl, rfl, trivial⟩, hS.F ht⟩) hS.2.2 dX9_runOnThread_18

set_option maxHeartbeats 4000000 in
set_option maxRecDepth 100000 in
theorem c_X9_count (l : Launch) (dC : Nat → ClassId) (dI : Nat → Nat → Nat) (h0 : Nat) (y0 : Nat) (y1 : Nat) (y2 : Nat) (y3 : Nat) (y4 : Nat) (y5 : Nat) (y6 : Nat) (y7 : Nat) (y8 : Nat) (k5 : ClassId) (v1 : Int32) (sz : Nat)  : Met l yX9_count (.code yX9_count cX9_count 2 (some .int) :: gw) ({ frames := 1, cells := 0, slots := 0, locals := 24 }) (va_Pc [.ref h0, .int v1] (fun U => U.heap.size = sz ∧ va_P (dC, dI) vwCl [(h0, .inr (9, [.ref y0, .ref y1, .ref y2, .ref y3, .ref y4, .int 0, .ref y5, .int 2, .int 0, .ref y6, .int 0, .ref y7, .int 0, .ref y8, .int 0])), (y5, .inl (k5, 6, .inr (.inr (.inr (.inr (fun _ => none))))))] U.heap ∧ va_K (dC, dI) vwCl [(k5, .object RX7)] U ∧ va_D (fun _ => True) [(h0, .inr (9, [.ref y0, .ref y1, .ref y2, .ref y3, .ref y4, .int 0, .ref y5, .int 2, .int 0, .ref y6, .int 0, .ref y7, .int 0, .ref y8, .int 0])), (y5, .inl (k5, 6, .inr (.inr (.inr (.inr (fun _ => none))))))] ∧ nx U)) (va_Qi (fun (r : Int32) (u : Unit) => (r = 0 ∧ (0 ≤ v1.toInt ∧ v1.toInt ≤ 10 ∧ ¬ v1.toInt = 2)) ∨ (r = 2 ∧ v1.toInt = 2) ∨ (r = (-1) ∧ ¬ (0 ≤ v1.toInt ∧ v1.toInt ≤ 10))) (fun _ _ => True) (va_A [(h0, .inr (9, [.ref y0, .ref y1, .ref y2, .ref y3, .ref y4, .int 0, .ref y5, .int 2, .int 0, .ref y6, .int 0, .ref y7, .int 0, .ref y8, .int 0])), (y5, .inl (k5, 6, .inr (.inr (.inr (.inr (fun _ => none))))))] sz)) 0 0 (va_A [(h0, .inr (9, [.ref y0, .ref y1, .ref y2, .ref y3, .ref y4, .int 0, .ref y5, .int 2, .int 0, .ref y6, .int 0, .ref y7, .int 0, .ref y8, .int 0])), (y5, .inl (k5, 6, .inr (.inr (.inr (.inr (fun _ => none))))))] sz) := by
  refine Met.ofW (cc := cX9_count) (maxL := 2) (ret := (some .int)) (by decide) rfl ?_
  intro p e s m args below meth c s₁ B hml hv
  obtain ⟨rfl, hsz, hP, hK, hD0, hN⟩ := hv
  have hx := B.exec
  have hb := B.bytes
  have hr := B.returns
  have hts := atoms_spec (ws := .code yX9_count cX9_count 2 (some .int) :: gw) B.pre
  have hg : ∀ w ∈ gw, w.before _ s = true := fun w h => hts w (List.mem_cons_of_mem _ h)
  have hown : s.vm.findClass RX9 = some m.cls := findClass_of_methodNamed B.named
  have hlocks := B.notSynchronized
  subst hsz
  have hD := hD0.self (sz := s.heap.size)
  generalize hAe : va_A [(h0, .inr (9, [.ref y0, .ref y1, .ref y2, .ref y3, .ref y4, .int 0, .ref y5, .int 2, .int 0, .ref y6, .int 0, .ref y7, .int 0, .ref y8, .int 0])), (y5, .inl (k5, 6, .inr (.inr (.inr (.inr (fun _ => none))))))] s.heap.size = A at hD ⊢
  have hA : ∀ q : Nat, s.heap.size ≤ q → A q := fun q h => by rw [← hAe]; exact Or.inr h
  have hS : va_S A s.heap s.heap [] := va_S.rf
  have hP : va_P (dC, dI) vwCl [(h0, .inr (9, [.ref y0, .ref y1, .ref y2, .ref y3, .ref y4, .int 0, .ref y5, .int 2, .int 0, .ref y6, .int 0, .ref y7, .int 0, .ref y8, .int 0])), (y5, .inl (k5, 6, .inr (.inr (.inr (.inr (fun _ => none))))))] s.heap := hP
  have hl := lv_entry ([.ref h0, .int v1]) (n := 2) (Nat.le_of_ble_eq_true rfl)
  rw [lg_entry_eq]
  generalize (lg_sl ([.ref h0, .int v1]) ++ List.replicate (2 - (lg_sl ([.ref h0, .int v1])).length) Slot.unset).toArray = ls at hl ⊢
  have hl : lv_has ls 2 [(0, .ref h0), (1, .int v1)] := hl
  refine lv_iload_n hx hb dX9_count_0 rfl (lv_at hl 1 rfl) ?_
  rcases (show (v1.toInt < 0 ∨ 10 < v1.toInt) ∨ v1.toInt = 0 ∨ v1.toInt = 1 ∨ v1.toInt = 2 ∨ v1.toInt = 3 ∨ v1.toInt = 4 ∨ v1.toInt = 5 ∨ v1.toInt = 6 ∨ v1.toInt = 7 ∨ v1.toInt = 8 ∨ v1.toInt = 9 ∨ v1.toInt = 10 by omega) with sw_1 | sw_1 | sw_1 | sw_1 | sw_1 | sw_1 | sw_1 | sw_1 | sw_1 | sw_1 | sw_1 | sw_1
  · refine lv_tableOut (tgt := 120) hx hb dX9_count_1 sw_1 (by decide) ?_
    refine lv_aload_n hx hb dX9_count_120 rfl (lv_at hl 0 rfl) ?_
    refine lv_iload_n hx hb dX9_count_121 rfl (lv_at hl 1 rfl) ?_
    have hPc := hP.sub (ws' := [(h0, .inr (9, [.ref y0, .ref y1, .ref y2, .ref y3, .ref y4, .int 0, .ref y5, .int 2, .int 0, .ref y6, .int 0, .ref y7, .int 0, .ref y8, .int 0])), (y5, .inl (k5, 6, .inr (.inr (.inr (.inr (fun _ => none))))))]) [0, 1] rfl
    have hDc := hD.sub (ws' := [(h0, .inr (9, [.ref y0, .ref y1, .ref y2, .ref y3, .ref y4, .int 0, .ref y5, .int 2, .int 0, .ref y6, .int 0, .ref y7, .int 0, .ref y8, .int 0])), (y5, .inl (k5, 6, .inr (.inr (.inr (.inr (fun _ => none))))))]) [0, 1] (by decide) rfl
    have hKc := hK.sub (tys' := [(k5, .object RX7)]) [0] rfl
    have hFc := va_free (wc := [(h0, .inr (9, [.ref y0, .ref y1, .ref y2, .ref y3, .ref y4, .int 0, .ref y5, .int 2, .int 0, .ref y6, .int 0, .ref y7, .int 0, .ref y8, .int 0])), (y5, .inl (k5, 6, .inr (.inr (.inr (.inr (fun _ => none))))))]) hD hS hA [0, 1] rfl
    refine va_calli (va_runV (As := [.int v1]) (rest := []) ⟨hx, hb, hml, hown, hg⟩ (c_X9_runOnThread l dC dI h0 y0 y1 y2 y3 y4 y5 y6 y7 y8 k5 v1 s.heap.size ) (cwV 1 hg (gw_V gm_methodLink_RX9_250_yX9_runOnThread gm_instanceMethod_yX9_runOnThread gm_selects_RX9_yX9_runOnThread_yX9_runOnThread gm_initialized_RX9 gm_code_yX9_runOnThread_cX9_runOnThread_3_some_int_) rfl rfl rfl (by decide +kernel) ⟨Nat.le_of_ble_eq_true rfl, Nat.le_of_ble_eq_true rfl⟩) ⟨fun a U g mk q => by obtain ⟨q0, q1, qP, qK, qD, qN⟩ := q; exact ⟨q0, q1, qP, va_K.moved (u := U) (U := U.calling g mk a) (Vm.Alike.refl U.vm) qK, qD, nx_same (u := U) (U := U.calling g mk a) rfl qN⟩, va_recv hKc hPc (ci := 9) (q0 := 0) rfl rfl, fun U hU hW => ⟨rfl, by rw [hU], by rw [hU]; exact hPc, va_K.moved hW.alike hKc, hDc.weaken (fun _ _ _ _ => trivial), nx_warm hW hN⟩⟩ rfl rfl hl.1 rfl (lv_room (Nat.le_of_ble_eq_true rfl)) dX9_count_122 ⟨Nat.le_of_ble_eq_true rfl, Nat.le_of_ble_eq_true rfl⟩) hS (fun q _ h => hFc q h) hFc (fun r_2 u_3 t H1 locs ht hvm hw hB hz1 hk1 hS => ?_)
    have hP1 : va_P (dC, dI) vwCl [] H1 := nil_P
    have hD1 := nil_D (A := va_A [(h0, .inr (9, [.ref y0, .ref y1, .ref y2, .ref y3, .ref y4, .int 0, .ref y5, .int 2, .int 0, .ref y6, .int 0, .ref y7, .int 0, .ref y8, .int 0])), (y5, .inl (k5, 6, .inr (.inr (.inr (.inr (fun _ => none))))))] s.heap.size)
    obtain ⟨hP, hD⟩ := va_join (wr := []) (w1 := []) hP hD [0, 1] [] rfl rfl (by decide) (by decide +kernel) hk1 hFc hP1 hD1
    generalize H1 = H at hP hS ⊢
    have hP : va_P (dC, dI) vwCl [] H := hP
    have hD : va_D A [] := hD
    refine W.widen (k := 0) (n := 0) (Nat.le_of_ble_eq_true rfl) (Nat.le_of_ble_eq_true rfl) ?_
    obtain rfl : r_2 = -1 := hw
    exact W.iret (v := -1) hx hb hr (fun t ht hW => ⟨⟨-1, (), rfl, (Or.inr (Or.inr ⟨rfl, by omega⟩)), trivial⟩, hS.F ht⟩) hS.2.2 dX9_count_125
  · refine lv_tableIn (tgt := 60) hx hb dX9_count_1 (by omega) (by omega) (by rw [sw_1]; rfl) (by decide) ?_
    refine lv_aload_n hx hb dX9_count_60 rfl (lv_at hl 0 rfl) ?_
    refine va_get (D := (dC, dI)) (ci := 9) (v := .int 0) (C := RX9) (T := TX9) (N := 15) hx hb hg gb_9 hown hK hP 0 rfl rfl 5 (by decide) (hg _ gm_fieldLink_RX9_66_ErrandGuild_runCount_I_) (fun _ h9 => h9) rfl dX9_count_61 ?_
    exact W.iret (v := 0) hx hb hr (fun t ht hW => ⟨⟨0, (), rfl, (Or.inl ⟨rfl, by omega⟩), trivial⟩, hS.F ht⟩) hS.2.2 dX9_count_64
  · refine lv_tableIn (tgt := 65) hx hb dX9_count_1 (by omega) (by omega) (by rw [sw_1]; rfl) (by decide) ?_
    refine lv_aload_n hx hb dX9_count_65 rfl (lv_at hl 0 rfl) ?_
    refine va_get (D := (dC, dI)) (ci := 9) (v := .int 0) (C := RX9) (T := TX9) (N := 15) hx hb hg gb_9 hown hK hP 0 rfl rfl 8 (by decide) (hg _ gm_fieldLink_RX9_84_ErrandGuild_beats_I_) (fun _ h9 => h9) rfl dX9_count_66 ?_
    exact W.iret (v := 0) hx hb hr (fun t ht hW => ⟨⟨0, (), rfl, (Or.inl ⟨rfl, by omega⟩), trivial⟩, hS.F ht⟩) hS.2.2 dX9_count_69
  · refine lv_tableIn (tgt := 70) hx hb dX9_count_1 (by omega) (by omega) (by rw [sw_1]; rfl) (by decide) ?_
    refine lv_aload_n hx hb dX9_count_70 rfl (lv_at hl 0 rfl) ?_
    refine va_get (D := (dC, dI)) (ci := 9) (v := .int 2) (C := RX9) (T := TX9) (N := 15) hx hb hg gb_9 hown hK hP 0 rfl rfl 7 (by decide) (hg _ gm_fieldLink_RX9_38_ErrandGuild_threadCount_I_) (fun _ h9 => h9) rfl dX9_count_71 ?_
    exact W.iret (v := 2) hx hb hr (fun t ht hW => ⟨⟨2, (), rfl, (Or.inr (Or.inl ⟨rfl, by omega⟩)), trivial⟩, hS.F ht⟩) hS.2.2 dX9_count_74
  · refine lv_tableIn (tgt := 75) hx hb dX9_count_1 (by omega) (by omega) (by rw [sw_1]; rfl) (by decide) ?_
    refine lv_aload_n hx hb dX9_count_75 rfl (lv_at hl 0 rfl) ?_
    refine lv_iconst (v := 0) hx hb dX9_count_76 (by decide) ?_
    have hPc := hP.sub (ws' := [(h0, .inr (9, [.ref y0, .ref y1, .ref y2, .ref y3, .ref y4, .int 0, .ref y5, .int 2, .int 0, .ref y6, .int 0, .ref y7, .int 0, .ref y8, .int 0]))]) [0] rfl
    have hDc := hD.sub (ws' := [(h0, .inr (9, [.ref y0, .ref y1, .ref y2, .ref y3, .ref y4, .int 0, .ref y5, .int 2, .int 0, .ref y6, .int 0, .ref y7, .int 0, .ref y8, .int 0]))]) [0] (by decide) rfl
    have hKc := hK.sub (tys' := []) [] rfl
    have hFc := va_free (wc := [(h0, .inr (9, [.ref y0, .ref y1, .ref y2, .ref y3, .ref y4, .int 0, .ref y5, .int 2, .int 0, .ref y6, .int 0, .ref y7, .int 0, .ref y8, .int 0]))]) hD hS hA [0] rfl
    refine va_calli (va_runV (As := [.int 0]) (rest := []) ⟨hx, hb, hml, hown, hg⟩ (c_X9_runsThatAre l dC dI h0 y0 y1 y2 y3 y4 y5 y6 y7 y8 0 s.heap.size ) (cwV 1 hg (gw_V gm_methodLink_RX9_247_yX9_runsThatAre gm_instanceMethod_yX9_runsThatAre gm_selects_RX9_yX9_runsThatAre_yX9_runsThatAre gm_initialized_RX9 gm_code_yX9_runsThatAre_cX9_runsThatAre_5_some_int_) rfl rfl rfl (by decide +kernel) ⟨Nat.le_of_ble_eq_true rfl, Nat.le_of_ble_eq_true rfl⟩) ⟨fun a U g mk q => by obtain ⟨q0, q1, qP, qK, qD, qN⟩ := q; exact ⟨q0, q1, qP, va_K.moved (u := U) (U := U.calling g mk a) (Vm.Alike.refl U.vm) qK, qD, nx_same (u := U) (U := U.calling g mk a) rfl qN⟩, va_recv hKc hPc (ci := 9) (q0 := 0) rfl rfl, fun U hU hW => ⟨rfl, by rw [hU], by rw [hU]; exact hPc, va_K.moved hW.alike hKc, hDc.weaken (fun _ _ _ _ => trivial), nx_warm hW hN⟩⟩ rfl rfl hl.1 rfl (lv_room (Nat.le_of_ble_eq_true rfl)) dX9_count_77 ⟨Nat.le_of_ble_eq_true rfl, Nat.le_of_ble_eq_true rfl⟩) hS (fun q _ h => hFc q h) hFc (fun r_4 u_5 t H1 locs ht hvm hw hB hz1 hk1 hS => ?_)
    have hP1 : va_P (dC, dI) vwCl [] H1 := nil_P
    have hD1 := nil_D (A := va_A [(h0, .inr (9, [.ref y0, .ref y1, .ref y2, .ref y3, .ref y4, .int 0, .ref y5, .int 2, .int 0, .ref y6, .int 0, .ref y7, .int 0, .ref y8, .int 0]))] s.heap.size)
    obtain ⟨hP, hD⟩ := va_join (wr := [(y5, .inl (k5, 6, .inr (.inr (.inr (.inr (fun _ => none))))))]) (w1 := []) hP hD [0] [1] rfl rfl (by decide) (by decide +kernel) hk1 hFc hP1 hD1
    generalize H1 = H at hP hS ⊢
    have hP : va_P (dC, dI) vwCl [(y5, .inl (k5, 6, .inr (.inr (.inr (.inr (fun _ => none))))))] H := hP
    have hD : va_D A [(y5, .inl (k5, 6, .inr (.inr (.inr (.inr (fun _ => none))))))] := hD
    refine W.widen (k := 0) (n := 0) (Nat.le_of_ble_eq_true rfl) (Nat.le_of_ble_eq_true rfl) ?_
    obtain rfl : r_4 = 0 := hw
    exact W.iret (v := 0) hx hb hr (fun t ht hW => ⟨⟨0, (), rfl, (Or.inl ⟨rfl, by omega⟩), trivial⟩, hS.F ht⟩) hS.2.2 dX9_count_80
  · refine lv_tableIn (tgt := 81) hx hb dX9_count_1 (by omega) (by omega) (by rw [sw_1]; rfl) (by decide) ?_
    refine lv_aload_n hx hb dX9_count_81 rfl (lv_at hl 0 rfl) ?_
    refine lv_iconst (v := 1) hx hb dX9_count_82 (by decide) ?_
    have hPc := hP.sub (ws' := [(h0, .inr (9, [.ref y0, .ref y1, .ref y2, .ref y3, .ref y4, .int 0, .ref y5, .int 2, .int 0, .ref y6, .int 0, .ref y7, .int 0, .ref y8, .int 0]))]) [0] rfl
    have hDc := hD.sub (ws' := [(h0, .inr (9, [.ref y0, .ref y1, .ref y2, .ref y3, .ref y4, .int 0, .ref y5, .int 2, .int 0, .ref y6, .int 0, .ref y7, .int 0, .ref y8, .int 0]))]) [0] (by decide) rfl
    have hKc := hK.sub (tys' := []) [] rfl
    have hFc := va_free (wc := [(h0, .inr (9, [.ref y0, .ref y1, .ref y2, .ref y3, .ref y4, .int 0, .ref y5, .int 2, .int 0, .ref y6, .int 0, .ref y7, .int 0, .ref y8, .int 0]))]) hD hS hA [0] rfl
    refine va_calli (va_runV (As := [.int 1]) (rest := []) ⟨hx, hb, hml, hown, hg⟩ (c_X9_runsThatAre l dC dI h0 y0 y1 y2 y3 y4 y5 y6 y7 y8 1 s.heap.size ) (cwV 1 hg (gw_V gm_methodLink_RX9_247_yX9_runsThatAre gm_instanceMethod_yX9_runsThatAre gm_selects_RX9_yX9_runsThatAre_yX9_runsThatAre gm_initialized_RX9 gm_code_yX9_runsThatAre_cX9_runsThatAre_5_some_int_) rfl rfl rfl (by decide +kernel) ⟨Nat.le_of_ble_eq_true rfl, Nat.le_of_ble_eq_true rfl⟩) ⟨fun a U g mk q => by obtain ⟨q0, q1, qP, qK, qD, qN⟩ := q; exact ⟨q0, q1, qP, va_K.moved (u := U) (U := U.calling g mk a) (Vm.Alike.refl U.vm) qK, qD, nx_same (u := U) (U := U.calling g mk a) rfl qN⟩, va_recv hKc hPc (ci := 9) (q0 := 0) rfl rfl, fun U hU hW => ⟨rfl, by rw [hU], by rw [hU]; exact hPc, va_K.moved hW.alike hKc, hDc.weaken (fun _ _ _ _ => trivial), nx_warm hW hN⟩⟩ rfl rfl hl.1 rfl (lv_room (Nat.le_of_ble_eq_true rfl)) dX9_count_83 ⟨Nat.le_of_ble_eq_true rfl, Nat.le_of_ble_eq_true rfl⟩) hS (fun q _ h => hFc q h) hFc (fun r_6 u_7 t H1 locs ht hvm hw hB hz1 hk1 hS => ?_)
    have hP1 : va_P (dC, dI) vwCl [] H1 := nil_P
    have hD1 := nil_D (A := va_A [(h0, .inr (9, [.ref y0, .ref y1, .ref y2, .ref y3, .ref y4, .int 0, .ref y5, .int 2, .int 0, .ref y6, .int 0, .ref y7, .int 0, .ref y8, .int 0]))] s.heap.size)
    obtain ⟨hP, hD⟩ := va_join (wr := [(y5, .inl (k5, 6, .inr (.inr (.inr (.inr (fun _ => none))))))]) (w1 := []) hP hD [0] [1] rfl rfl (by decide) (by decide +kernel) hk1 hFc hP1 hD1
    generalize H1 = H at hP hS ⊢
    have hP : va_P (dC, dI) vwCl [(y5, .inl (k5, 6, .inr (.inr (.inr (.inr (fun _ => none))))))] H := hP
    have hD : va_D A [(y5, .inl (k5, 6, .inr (.inr (.inr (.inr (fun _ => none))))))] := hD
    refine W.widen (k := 0) (n := 0) (Nat.le_of_ble_eq_true rfl) (Nat.le_of_ble_eq_true rfl) ?_
    obtain rfl : r_6 = 0 := hw
    exact W.iret (v := 0) hx hb hr (fun t ht hW => ⟨⟨0, (), rfl, (Or.inl ⟨rfl, by omega⟩), trivial⟩, hS.F ht⟩) hS.2.2 dX9_count_86
  · refine lv_tableIn (tgt := 87) hx hb dX9_count_1 (by omega) (by omega) (by rw [sw_1]; rfl) (by decide) ?_
    refine lv_aload_n hx hb dX9_count_87 rfl (lv_at hl 0 rfl) ?_
    refine lv_iconst (v := 2) hx hb dX9_count_88 (by decide) ?_
    have hPc := hP.sub (ws' := [(h0, .inr (9, [.ref y0, .ref y1, .ref y2, .ref y3, .ref y4, .int 0, .ref y5, .int 2, .int 0, .ref y6, .int 0, .ref y7, .int 0, .ref y8, .int 0]))]) [0] rfl
    have hDc := hD.sub (ws' := [(h0, .inr (9, [.ref y0, .ref y1, .ref y2, .ref y3, .ref y4, .int 0, .ref y5, .int 2, .int 0, .ref y6, .int 0, .ref y7, .int 0, .ref y8, .int 0]))]) [0] (by decide) rfl
    have hKc := hK.sub (tys' := []) [] rfl
    have hFc := va_free (wc := [(h0, .inr (9, [.ref y0, .ref y1, .ref y2, .ref y3, .ref y4, .int 0, .ref y5, .int 2, .int 0, .ref y6, .int 0, .ref y7, .int 0, .ref y8, .int 0]))]) hD hS hA [0] rfl
    refine va_calli (va_runV (As := [.int 2]) (rest := []) ⟨hx, hb, hml, hown, hg⟩ (c_X9_runsThatAre l dC dI h0 y0 y1 y2 y3 y4 y5 y6 y7 y8 2 s.heap.size ) (cwV 1 hg (gw_V gm_methodLink_RX9_247_yX9_runsThatAre gm_instanceMethod_yX9_runsThatAre gm_selects_RX9_yX9_runsThatAre_yX9_runsThatAre gm_initialized_RX9 gm_code_yX9_runsThatAre_cX9_runsThatAre_5_some_int_) rfl rfl rfl (by decide +kernel) ⟨Nat.le_of_ble_eq_true rfl, Nat.le_of_ble_eq_true rfl⟩) ⟨fun a U g mk q => by obtain ⟨q0, q1, qP, qK, qD, qN⟩ := q; exact ⟨q0, q1, qP, va_K.moved (u := U) (U := U.calling g mk a) (Vm.Alike.refl U.vm) qK, qD, nx_same (u := U) (U := U.calling g mk a) rfl qN⟩, va_recv hKc hPc (ci := 9) (q0 := 0) rfl rfl, fun U hU hW => ⟨rfl, by rw [hU], by rw [hU]; exact hPc, va_K.moved hW.alike hKc, hDc.weaken (fun _ _ _ _ => trivial), nx_warm hW hN⟩⟩ rfl rfl hl.1 rfl (lv_room (Nat.le_of_ble_eq_true rfl)) dX9_count_89 ⟨Nat.le_of_ble_eq_true rfl, Nat.le_of_ble_eq_true rfl⟩) hS (fun q _ h => hFc q h) hFc (fun r_8 u_9 t H1 locs ht hvm hw hB hz1 hk1 hS => ?_)
    have hP1 : va_P (dC, dI) vwCl [] H1 := nil_P
    have hD1 := nil_D (A := va_A [(h0, .inr (9, [.ref y0, .ref y1, .ref y2, .ref y3, .ref y4, .int 0, .ref y5, .int 2, .int 0, .ref y6, .int 0, .ref y7, .int 0, .ref y8, .int 0]))] s.heap.size)
    obtain ⟨hP, hD⟩ := va_join (wr := [(y5, .inl (k5, 6, .inr (.inr (.inr (.inr (fun _ => none))))))]) (w1 := []) hP hD [0] [1] rfl rfl (by decide) (by decide +kernel) hk1 hFc hP1 hD1
    generalize H1 = H at hP hS ⊢
    have hP : va_P (dC, dI) vwCl [(y5, .inl (k5, 6, .inr (.inr (.inr (.inr (fun _ => none))))))] H := hP
    have hD : va_D A [(y5, .inl (k5, 6, .inr (.inr (.inr (.inr (fun _ => none))))))] := hD
    refine W.widen (k := 0) (n := 0) (Nat.le_of_ble_eq_true rfl) (Nat.le_of_ble_eq_true rfl) ?_
    obtain rfl : r_8 = 0 := hw
    exact W.iret (v := 0) hx hb hr (fun t ht hW => ⟨⟨0, (), rfl, (Or.inl ⟨rfl, by omega⟩), trivial⟩, hS.F ht⟩) hS.2.2 dX9_count_92
  · refine lv_tableIn (tgt := 93) hx hb dX9_count_1 (by omega) (by omega) (by rw [sw_1]; rfl) (by decide) ?_
    refine lv_aload_n hx hb dX9_count_93 rfl (lv_at hl 0 rfl) ?_
    refine lv_iconst (v := 3) hx hb dX9_count_94 (by decide) ?_
    have hPc := hP.sub (ws' := [(h0, .inr (9, [.ref y0, .ref y1, .ref y2, .ref y3, .ref y4, .int 0, .ref y5, .int 2, .int 0, .ref y6, .int 0, .ref y7, .int 0, .ref y8, .int 0]))]) [0] rfl
    have hDc := hD.sub (ws' := [(h0, .inr (9, [.ref y0, .ref y1, .ref y2, .ref y3, .ref y4, .int 0, .ref y5, .int 2, .int 0, .ref y6, .int 0, .ref y7, .int 0, .ref y8, .int 0]))]) [0] (by decide) rfl
    have hKc := hK.sub (tys' := []) [] rfl
    have hFc := va_free (wc := [(h0, .inr (9, [.ref y0, .ref y1, .ref y2, .ref y3, .ref y4, .int 0, .ref y5, .int 2, .int 0, .ref y6, .int 0, .ref y7, .int 0, .ref y8, .int 0]))]) hD hS hA [0] rfl
    refine va_calli (va_runV (As := [.int 3]) (rest := []) ⟨hx, hb, hml, hown, hg⟩ (c_X9_runsThatAre l dC dI h0 y0 y1 y2 y3 y4 y5 y6 y7 y8 3 s.heap.size ) (cwV 1 hg (gw_V gm_methodLink_RX9_247_yX9_runsThatAre gm_instanceMethod_yX9_runsThatAre gm_selects_RX9_yX9_runsThatAre_yX9_runsThatAre gm_initialized_RX9 gm_code_yX9_runsThatAre_cX9_runsThatAre_5_some_int_) rfl rfl rfl (by decide +kernel) ⟨Nat.le_of_ble_eq_true rfl, Nat.le_of_ble_eq_true rfl⟩) ⟨fun a U g mk q => by obtain ⟨q0, q1, qP, qK, qD, qN⟩ := q; exact ⟨q0, q1, qP, va_K.moved (u := U) (U := U.calling g mk a) (Vm.Alike.refl U.vm) qK, qD, nx_same (u := U) (U := U.calling g mk a) rfl qN⟩, va_recv hKc hPc (ci := 9) (q0 := 0) rfl rfl, fun U hU hW => ⟨rfl, by rw [hU], by rw [hU]; exact hPc, va_K.moved hW.alike hKc, hDc.weaken (fun _ _ _ _ => trivial), nx_warm hW hN⟩⟩ rfl rfl hl.1 rfl (lv_room (Nat.le_of_ble_eq_true rfl)) dX9_count_95 ⟨Nat.le_of_ble_eq_true rfl, Nat.le_of_ble_eq_true rfl⟩) hS (fun q _ h => hFc q h) hFc (fun r_10 u_11 t H1 locs ht hvm hw hB hz1 hk1 hS => ?_)
    have hP1 : va_P (dC, dI) vwCl [] H1 := nil_P
    have hD1 := nil_D (A := va_A [(h0, .inr (9, [.ref y0, .ref y1, .ref y2, .ref y3, .ref y4, .int 0, .ref y5, .int 2, .int 0, .ref y6, .int 0, .ref y7, .int 0, .ref y8, .int 0]))] s.heap.size)
    obtain ⟨hP, hD⟩ := va_join (wr := [(y5, .inl (k5, 6, .inr (.inr (.inr (.inr (fun _ => none))))))]) (w1 := []) hP hD [0] [1] rfl rfl (by decide) (by decide +kernel) hk1 hFc hP1 hD1
    generalize H1 = H at hP hS ⊢
    have hP : va_P (dC, dI) vwCl [(y5, .inl (k5, 6, .inr (.inr (.inr (.inr (fun _ => none))))))] H := hP
    have hD : va_D A [(y5, .inl (k5, 6, .inr (.inr (.inr (.inr (fun _ => none))))))] := hD
    refine W.widen (k := 0) (n := 0) (Nat.le_of_ble_eq_true rfl) (Nat.le_of_ble_eq_true rfl) ?_
    obtain rfl : r_10 = 0 := hw
    exact W.iret (v := 0) hx hb hr (fun t ht hW => ⟨⟨0, (), rfl, (Or.inl ⟨rfl, by omega⟩), trivial⟩, hS.F ht⟩) hS.2.2 dX9_count_98
  · refine lv_tableIn (tgt := 99) hx hb dX9_count_1 (by omega) (by omega) (by rw [sw_1]; rfl) (by decide) ?_
    refine lv_aload_n hx hb dX9_count_99 rfl (lv_at hl 0 rfl) ?_
    refine lv_iconst (v := 4) hx hb dX9_count_100 (by decide) ?_
    have hPc := hP.sub (ws' := [(h0, .inr (9, [.ref y0, .ref y1, .ref y2, .ref y3, .ref y4, .int 0, .ref y5, .int 2, .int 0, .ref y6, .int 0, .ref y7, .int 0, .ref y8, .int 0]))]) [0] rfl
    have hDc := hD.sub (ws' := [(h0, .inr (9, [.ref y0, .ref y1, .ref y2, .ref y3, .ref y4, .int 0, .ref y5, .int 2, .int 0, .ref y6, .int 0, .ref y7, .int 0, .ref y8, .int 0]))]) [0] (by decide) rfl
    have hKc := hK.sub (tys' := []) [] rfl
    have hFc := va_free (wc := [(h0, .inr (9, [.ref y0, .ref y1, .ref y2, .ref y3, .ref y4, .int 0, .ref y5, .int 2, .int 0, .ref y6, .int 0, .ref y7, .int 0, .ref y8, .int 0]))]) hD hS hA [0] rfl
    refine va_calli (va_runV (As := [.int 4]) (rest := []) ⟨hx, hb, hml, hown, hg⟩ (c_X9_runsThatAre l dC dI h0 y0 y1 y2 y3 y4 y5 y6 y7 y8 4 s.heap.size ) (cwV 1 hg (gw_V gm_methodLink_RX9_247_yX9_runsThatAre gm_instanceMethod_yX9_runsThatAre gm_selects_RX9_yX9_runsThatAre_yX9_runsThatAre gm_initialized_RX9 gm_code_yX9_runsThatAre_cX9_runsThatAre_5_some_int_) rfl rfl rfl (by decide +kernel) ⟨Nat.le_of_ble_eq_true rfl, Nat.le_of_ble_eq_true rfl⟩) ⟨fun a U g mk q => by obtain ⟨q0, q1, qP, qK, qD, qN⟩ := q; exact ⟨q0, q1, qP, va_K.moved (u := U) (U := U.calling g mk a) (Vm.Alike.refl U.vm) qK, qD, nx_same (u := U) (U := U.calling g mk a) rfl qN⟩, va_recv hKc hPc (ci := 9) (q0 := 0) rfl rfl, fun U hU hW => ⟨rfl, by rw [hU], by rw [hU]; exact hPc, va_K.moved hW.alike hKc, hDc.weaken (fun _ _ _ _ => trivial), nx_warm hW hN⟩⟩ rfl rfl hl.1 rfl (lv_room (Nat.le_of_ble_eq_true rfl)) dX9_count_101 ⟨Nat.le_of_ble_eq_true rfl, Nat.le_of_ble_eq_true rfl⟩) hS (fun q _ h => hFc q h) hFc (fun r_12 u_13 t H1 locs ht hvm hw hB hz1 hk1 hS => ?_)
    have hP1 : va_P (dC, dI) vwCl [] H1 := nil_P
    have hD1 := nil_D (A := va_A [(h0, .inr (9, [.ref y0, .ref y1, .ref y2, .ref y3, .ref y4, .int 0, .ref y5, .int 2, .int 0, .ref y6, .int 0, .ref y7, .int 0, .ref y8, .int 0]))] s.heap.size)
    obtain ⟨hP, hD⟩ := va_join (wr := [(y5, .inl (k5, 6, .inr (.inr (.inr (.inr (fun _ => none))))))]) (w1 := []) hP hD [0] [1] rfl rfl (by decide) (by decide +kernel) hk1 hFc hP1 hD1
    generalize H1 = H at hP hS ⊢
    have hP : va_P (dC, dI) vwCl [(y5, .inl (k5, 6, .inr (.inr (.inr (.inr (fun _ => none))))))] H := hP
    have hD : va_D A [(y5, .inl (k5, 6, .inr (.inr (.inr (.inr (fun _ => none))))))] := hD
    refine W.widen (k := 0) (n := 0) (Nat.le_of_ble_eq_true rfl) (Nat.le_of_ble_eq_true rfl) ?_
    obtain rfl : r_12 = 0 := hw
    exact W.iret (v := 0) hx hb hr (fun t ht hW => ⟨⟨0, (), rfl, (Or.inl ⟨rfl, by omega⟩), trivial⟩, hS.F ht⟩) hS.2.2 dX9_count_104
  · refine lv_tableIn (tgt := 105) hx hb dX9_count_1 (by omega) (by omega) (by rw [sw_1]; rfl) (by decide) ?_
    refine lv_aload_n hx hb dX9_count_105 rfl (lv_at hl 0 rfl) ?_
    refine va_get (D := (dC, dI)) (ci := 9) (v := .int 0) (C := RX9) (T := TX9) (N := 15) hx hb hg gb_9 hown hK hP 0 rfl rfl 10 (by decide) (hg _ gm_fieldLink_RX9_90_ErrandGuild_readingCount_I_) (fun _ h9 => h9) rfl dX9_count_106 ?_
    exact W.iret (v := 0) hx hb hr (fun t ht hW => ⟨⟨0, (), rfl, (Or.inl ⟨rfl, by omega⟩), trivial⟩, hS.F ht⟩) hS.2.2 dX9_count_109
  · refine lv_tableIn (tgt := 110) hx hb dX9_count_1 (by omega) (by omega) (by rw [sw_1]; rfl) (by decide) ?_
    refine lv_aload_n hx hb dX9_count_110 rfl (lv_at hl 0 rfl) ?_
    refine va_get (D := (dC, dI)) (ci := 9) (v := .int 0) (C := RX9) (T := TX9) (N := 15) hx hb hg gb_9 hown hK hP 0 rfl rfl 12 (by decide) (hg _ gm_fieldLink_RX9_93_ErrandGuild_askedCount_I_) (fun _ h9 => h9) rfl dX9_count_111 ?_
    exact W.iret (v := 0) hx hb hr (fun t ht hW => ⟨⟨0, (), rfl, (Or.inl ⟨rfl, by omega⟩), trivial⟩, hS.F ht⟩) hS.2.2 dX9_count_114
  · refine lv_tableIn (tgt := 115) hx hb dX9_count_1 (by omega) (by omega) (by rw [sw_1]; rfl) (by decide) ?_
    refine lv_aload_n hx hb dX9_count_115 rfl (lv_at hl 0 rfl) ?_
    refine va_get (D := (dC, dI)) (ci := 9) (v := .int 0) (C := RX9) (T := TX9) (N := 15) hx hb hg gb_9 hown hK hP 0 rfl rfl 14 (by decide) (hg _ gm_fieldLink_RX9_97_ErrandGuild_turnCount_I_) (fun _ h9 => h9) rfl dX9_count_116 ?_
    exact W.iret (v := 0) hx hb hr (fun t ht hW => ⟨⟨0, (), rfl, (Or.inl ⟨rfl, by omega⟩), trivial⟩, hS.F ht⟩) hS.2.2 dX9_count_119

set_option maxHeartbeats 4000000 in
set_option maxRecDepth 100000 in
theorem c_X9_isWorkLeft (l : Launch) (dC : Nat → ClassId) (dI : Nat → Nat → Nat) (h0 : Nat) (y0 : Nat) (y1 : Nat) (y2 : Nat) (y3 : Nat) (y4 : Nat) (y5 : Nat) (y6 : Nat) (y7 : Nat) (y8 : Nat) (sz : Nat)  : Met l yX9_isWorkLeft (.code yX9_isWorkLeft cX9_isWorkLeft 3 (some .boolean) :: gw) ({ frames := 0, cells := 0, slots := 0, locals := 0 }) (va_Pc [.ref h0] (fun U => U.heap.size = sz ∧ va_P (dC, dI) vwCl [(h0, .inr (9, [.ref y0, .ref y1, .ref y2, .ref y3, .ref y4, .int 0, .ref y5, .int 2, .int 0, .ref y6, .int 0, .ref y7, .int 0, .ref y8, .int 0]))] U.heap ∧ va_K (dC, dI) vwCl [] U ∧ va_D (fun _ => True) [(h0, .inr (9, [.ref y0, .ref y1, .ref y2, .ref y3, .ref y4, .int 0, .ref y5, .int 2, .int 0, .ref y6, .int 0, .ref y7, .int 0, .ref y8, .int 0]))] ∧ nx U)) (va_Qi (fun (r : Int32) (u : Unit) => r = 0) (fun _ _ => True) (va_A [(h0, .inr (9, [.ref y0, .ref y1, .ref y2, .ref y3, .ref y4, .int 0, .ref y5, .int 2, .int 0, .ref y6, .int 0, .ref y7, .int 0, .ref y8, .int 0]))] sz)) 0 0 (va_A [(h0, .inr (9, [.ref y0, .ref y1, .ref y2, .ref y3, .ref y4, .int 0, .ref y5, .int 2, .int 0, .ref y6, .int 0, .ref y7, .int 0, .ref y8, .int 0]))] sz) := by
  refine Met.ofW (cc := cX9_isWorkLeft) (maxL := 3) (ret := (some .boolean)) (by decide) rfl ?_
  intro p e s m args below meth c s₁ B hml hv
  obtain ⟨rfl, hsz, hP, hK, hD0, hN⟩ := hv
  have hx := B.exec
  have hb := B.bytes
  have hr := B.returns
  have hts := atoms_spec (ws := .code yX9_isWorkLeft cX9_isWorkLeft 3 (some .boolean) :: gw) B.pre
  have hg : ∀ w ∈ gw, w.before _ s = true := fun w h => hts w (List.mem_cons_of_mem _ h)
  have hown : s.vm.findClass RX9 = some m.cls := findClass_of_methodNamed B.named
  have hlocks := B.notSynchronized
  subst hsz
  have hD := hD0.self (sz := s.heap.size)
  generalize hAe : va_A [(h0, .inr (9, [.ref y0, .ref y1, .ref y2, .ref y3, .ref y4, .int 0, .ref y5, .int 2, .int 0, .ref y6, .int 0, .ref y7, .int 0, .ref y8, .int 0]))] s.heap.size = A at hD ⊢
  have hA : ∀ q : Nat, s.heap.size ≤ q → A q := fun q h => by rw [← hAe]; exact Or.inr h
  have hS : va_S A s.heap s.heap [] := va_S.rf
  have hP : va_P (dC, dI) vwCl [(h0, .inr (9, [.ref y0, .ref y1, .ref y2, .ref y3, .ref y4, .int 0, .ref y5, .int 2, .int 0, .ref y6, .int 0, .ref y7, .int 0, .ref y8, .int 0]))] s.heap := hP
  have hl := lv_entry ([.ref h0]) (n := 3) (Nat.le_of_ble_eq_true rfl)
  rw [lg_entry_eq]
  generalize (lg_sl ([.ref h0]) ++ List.replicate (3 - (lg_sl ([.ref h0])).length) Slot.unset).toArray = ls at hl ⊢
  have hl : lv_has ls 3 [(0, .ref h0)] := hl
  refine lv_iconst (v := 0) hx hb dX9_isWorkLeft_0 (by decide) ?_
  refine lv_istore_n (lv' := [(1, .int 0), (0, .ref h0)]) hx hb dX9_isWorkLeft_1 rfl hl (by decide) rfl (fun ls hl => ?_)
  refine lv_iload_n hx hb dX9_isWorkLeft_2 rfl (lv_at hl 0 rfl) ?_
  refine lv_aload_n hx hb dX9_isWorkLeft_3 rfl (lv_at hl 1 rfl) ?_
  refine va_get (D := (dC, dI)) (ci := 9) (v := .int 0) (C := RX9) (T := TX9) (N := 15) hx hb hg gb_9 hown hK hP 0 rfl rfl 5 (by decide) (hg _ gm_fieldLink_RX9_66_ErrandGuild_runCount_I_) (fun _ h9 => h9) rfl dX9_isWorkLeft_4 ?_
  refine lv_icmp_ge (tgt := 35) hx hb dX9_isWorkLeft_7 (by decide) (fun _ => ?_) (fun c_1 => absurd c_1 (by decide))
  refine lv_iconst (v := 0) hx hb dX9_isWorkLeft_35 (by decide) ?_
  exact W.zret (v := 0) hx hb hr rfl (fun t ht hW => ⟨⟨0, (), rfl, rfl, trivial⟩, hS.F ht⟩) hS.2.2 dX9_isWorkLeft_36

set_option maxHeartbeats 4000000 in
set_option maxRecDepth 100000 in
theorem c_X9_beat (l : Launch) (dC : Nat → ClassId) (dI : Nat → Nat → Nat) (h0 : Nat) (y0 : Nat) (y1 : Nat) (y2 : Nat) (y3 : Nat) (y4 : Nat) (y5 : Nat) (y6 : Nat) (y7 : Nat) (y8 : Nat) (v1 : Int32) (sz : Nat)  : Met l yX9_beat (.code yX9_beat cX9_beat 3 (some .int) :: gw) ({ frames := 1, cells := 0, slots := 0, locals := 22 }) (va_Pc [.ref h0, .int v1] (fun U => U.heap.size = sz ∧ va_P (dC, dI) vwCl [(h0, .inr (9, [.ref y0, .ref y1, .ref y2, .ref y3, .ref y4, .int 0, .ref y5, .int 2, .int 0, .ref y6, .int 0, .ref y7, .int 0, .ref y8, .int 0]))] U.heap ∧ va_K (dC, dI) vwCl [] U ∧ va_D (fun _ => True) [(h0, .inr (9, [.ref y0, .ref y1, .ref y2, .ref y3, .ref y4, .int 0, .ref y5, .int 2, .int 0, .ref y6, .int 0, .ref y7, .int 0, .ref y8, .int 0]))] ∧ nx U)) (va_Qi (fun (r : Int32) (u : Unit) => (r = 0 ∧ (1 ≤ v1.toInt ∧ v1.toInt ≤ 100)) ∨ (r = (-1) ∧ ¬ (1 ≤ v1.toInt ∧ v1.toInt ≤ 100))) (fun _ _ => True) (va_A [(h0, .inr (9, [.ref y0, .ref y1, .ref y2, .ref y3, .ref y4, .int 0, .ref y5, .int 2, .int 0, .ref y6, .int 0, .ref y7, .int 0, .ref y8, .int 0]))] sz)) 0 0 (va_A [(h0, .inr (9, [.ref y0, .ref y1, .ref y2, .ref y3, .ref y4, .int 0, .ref y5, .int 2, .int 0, .ref y6, .int 0, .ref y7, .int 0, .ref y8, .int 0]))] sz) := by
  refine Met.ofW (cc := cX9_beat) (maxL := 3) (ret := (some .int)) (by decide) rfl ?_
  intro p e s m args below meth c s₁ B hml hv
  obtain ⟨rfl, hsz, hP, hK, hD0, hN⟩ := hv
  have hx := B.exec
  have hb := B.bytes
  have hr := B.returns
  have hts := atoms_spec (ws := .code yX9_beat cX9_beat 3 (some .int) :: gw) B.pre
  have hg : ∀ w ∈ gw, w.before _ s = true := fun w h => hts w (List.mem_cons_of_mem _ h)
  have hown : s.vm.findClass RX9 = some m.cls := findClass_of_methodNamed B.named
  have hlocks := B.notSynchronized
  subst hsz
  have hD := hD0.self (sz := s.heap.size)
  generalize hAe : va_A [(h0, .inr (9, [.ref y0, .ref y1, .ref y2, .ref y3, .ref y4, .int 0, .ref y5, .int 2, .int 0, .ref y6, .int 0, .ref y7, .int 0, .ref y8, .int 0]))] s.heap.size = A at hD ⊢
  have hA : ∀ q : Nat, s.heap.size ≤ q → A q := fun q h => by rw [← hAe]; exact Or.inr h
  have hS : va_S A s.heap s.heap [] := va_S.rf
  have hP : va_P (dC, dI) vwCl [(h0, .inr (9, [.ref y0, .ref y1, .ref y2, .ref y3, .ref y4, .int 0, .ref y5, .int 2, .int 0, .ref y6, .int 0, .ref y7, .int 0, .ref y8, .int 0]))] s.heap := hP
  have hl := lv_entry ([.ref h0, .int v1]) (n := 3) (Nat.le_of_ble_eq_true rfl)
  rw [lg_entry_eq]
  generalize (lg_sl ([.ref h0, .int v1]) ++ List.replicate (3 - (lg_sl ([.ref h0, .int v1])).length) Slot.unset).toArray = ls at hl ⊢
  have hl : lv_has ls 3 [(0, .ref h0), (1, .int v1)] := hl
  refine lv_iload_n hx hb dX9_beat_0 rfl (lv_at hl 1 rfl) ?_
  refine lv_iconst (v := 1) hx hb dX9_beat_1 (by decide) ?_
  refine lv_icmp_lt (tgt := 11) hx hb dX9_beat_2 (by decide) (fun c_1 => ?_) (fun c_1 => ?_)
  · simp only [i_lt, i_le, i_eq, ti_1] at c_1
    refine lv_iconst (v := -1) hx hb dX9_beat_11 (by decide) ?_
    exact W.iret (v := -1) hx hb hr (fun t ht hW => ⟨⟨-1, (), rfl, (Or.inr ⟨rfl, by omega⟩), trivial⟩, hS.F ht⟩) hS.2.2 dX9_beat_12
  · simp only [i_lt, i_le, i_eq, ti_1] at c_1
    refine lv_iload_n hx hb dX9_beat_5 rfl (lv_at hl 1 rfl) ?_
    refine lv_bipush (v := 100) hx hb dX9_beat_6 (by decide) ?_
    refine lv_icmp_le (tgt := 13) hx hb dX9_beat_8 (by decide) (fun c_2 => ?_) (fun c_2 => ?_)
    · simp only [i_lt, i_le, i_eq, ti_100] at c_2
      refine lv_iconst (v := 0) hx hb dX9_beat_13 (by decide) ?_
      refine lv_istore_n (lv' := [(2, .int 0), (0, .ref h0), (1, .int v1)]) hx hb dX9_beat_14 rfl hl (by decide) rfl (fun ls hl => ?_)
      refine lv_iload_n hx hb dX9_beat_15 rfl (lv_at hl 0 rfl) ?_
      refine lv_iload_n hx hb dX9_beat_16 rfl (lv_at hl 2 rfl) ?_
      refine lv_icmp_ge (tgt := 55) hx hb dX9_beat_17 (by decide) (fun c_3 => ?_) (fun c_3 => ?_)
      · simp only [i_lt, i_le, i_eq, ti_0] at c_3
        exfalso
        omega
      · simp only [i_lt, i_le, i_eq, ti_0] at c_3
        refine lv_aload_n hx hb dX9_beat_20 rfl (lv_at hl 1 rfl) ?_
        have hPc := hP.sub (ws' := [(h0, .inr (9, [.ref y0, .ref y1, .ref y2, .ref y3, .ref y4, .int 0, .ref y5, .int 2, .int 0, .ref y6, .int 0, .ref y7, .int 0, .ref y8, .int 0]))]) [0] rfl
        have hDc := hD.sub (ws' := [(h0, .inr (9, [.ref y0, .ref y1, .ref y2, .ref y3, .ref y4, .int 0, .ref y5, .int 2, .int 0, .ref y6, .int 0, .ref y7, .int 0, .ref y8, .int 0]))]) [0] (by decide) rfl
        have hKc := hK.sub (tys' := []) [] rfl
        have hFc := va_free (wc := [(h0, .inr (9, [.ref y0, .ref y1, .ref y2, .ref y3, .ref y4, .int 0, .ref y5, .int 2, .int 0, .ref y6, .int 0, .ref y7, .int 0, .ref y8, .int 0]))]) hD hS hA [0] rfl
        refine va_calli (va_runV (As := []) (rest := []) ⟨hx, hb, hml, hown, hg⟩ (c_X9_isWorkLeft l dC dI h0 y0 y1 y2 y3 y4 y5 y6 y7 y8 s.heap.size ) (cwV 0 hg (gw_V gm_methodLink_RX9_121_yX9_isWorkLeft gm_instanceMethod_yX9_isWorkLeft gm_selects_RX9_yX9_isWorkLeft_yX9_isWorkLeft gm_initialized_RX9 gm_code_yX9_isWorkLeft_cX9_isWorkLeft_3_some_boolean_) rfl rfl rfl (by decide +kernel) ⟨Nat.le_of_ble_eq_true rfl, Nat.le_of_ble_eq_true rfl⟩) ⟨fun a U g mk q => by obtain ⟨q0, q1, qP, qK, qD, qN⟩ := q; exact ⟨q0, q1, qP, va_K.moved (u := U) (U := U.calling g mk a) (Vm.Alike.refl U.vm) qK, qD, nx_same (u := U) (U := U.calling g mk a) rfl qN⟩, va_recv hKc hPc (ci := 9) (q0 := 0) rfl rfl, fun U hU hW => ⟨rfl, by rw [hU], by rw [hU]; exact hPc, va_K.moved hW.alike hKc, hDc.weaken (fun _ _ _ _ => trivial), nx_warm hW hN⟩⟩ rfl rfl hl.1 rfl (lv_room (Nat.le_of_ble_eq_true rfl)) dX9_beat_21 ⟨Nat.le_of_ble_eq_true rfl, Nat.le_of_ble_eq_true rfl⟩) hS (fun q _ h => hFc q h) hFc (fun r_4 u_5 t H1 locs ht hvm hw hB hz1 hk1 hS => ?_)
        have hP1 : va_P (dC, dI) vwCl [] H1 := nil_P
        have hD1 := nil_D (A := va_A [(h0, .inr (9, [.ref y0, .ref y1, .ref y2, .ref y3, .ref y4, .int 0, .ref y5, .int 2, .int 0, .ref y6, .int 0, .ref y7, .int 0, .ref y8, .int 0]))] s.heap.size)
        obtain ⟨hP, hD⟩ := va_join (wr := []) (w1 := []) hP hD [0] [] rfl rfl (by decide) (by decide +kernel) hk1 hFc hP1 hD1
        generalize H1 = H at hP hS ⊢
        have hP : va_P (dC, dI) vwCl [] H := hP
        have hD : va_D A [] := hD
        refine W.widen (k := 0) (n := 0) (Nat.le_of_ble_eq_true rfl) (Nat.le_of_ble_eq_true rfl) ?_
        obtain rfl : r_4 = 0 := hw
        refine lv_if_eq (tgt := 55) hx hb dX9_beat_24 (by decide) (fun _ => ?_) (fun c_6 => absurd c_6 (by decide))
        refine lv_iload_n hx hb dX9_beat_55 rfl (lv_at hl 0 rfl) ?_
        exact W.iret (v := 0) hx hb hr (fun t ht hW => ⟨⟨0, (), rfl, (Or.inl ⟨rfl, by omega⟩), trivial⟩, hS.F ht⟩) hS.2.2 dX9_beat_56
    · simp only [i_lt, i_le, i_eq, ti_100] at c_2
      refine lv_iconst (v := -1) hx hb dX9_beat_11 (by decide) ?_
      exact W.iret (v := -1) hx hb hr (fun t ht hW => ⟨⟨-1, (), rfl, (Or.inr ⟨rfl, by omega⟩), trivial⟩, hS.F ht⟩) hS.2.2 dX9_beat_12

set_option maxHeartbeats 4000000 in
set_option maxRecDepth 100000 in
theorem c_X9_handler (l : Launch) (dC : Nat → ClassId) (dI : Nat → Nat → Nat) (h0 : Nat) (y0 : Nat) (y1 : Nat) (y2 : Nat) (y3 : Nat) (y4 : Nat) (y5 : Nat) (y6 : Nat) (y7 : Nat) (y8 : Nat) (w0 : Nat) (w1 : Nat) (w2 : Nat) (k0 : ClassId) (k1 : ClassId) (k2 : ClassId) (f0 : Nat → Int32) (f1 : Nat → Int32) (f2 : Nat → Int32) (v1 : Int32) (v2 : Int32) (v3 : Int32) (v4 : Int32) (sz : Nat)  : Met l yX9_handler (.code yX9_handler cX9_handler 6 (some .boolean) :: gw) ({ frames := 2, cells := 0, slots := 0, locals := 41 }) (va_Pc [.ref h0, .int v1, .int v2, .int v3, .int v4] (fun U => U.heap.size = sz ∧ va_P (dC, dI) vwCl [(h0, .inr (9, [.ref y0, .ref y1, .ref y2, .ref y3, .ref y4, .int 0, .ref y5, .int 2, .int 0, .ref y6, .int 0, .ref y7, .int 0, .ref y8, .int 0])), (y3, .inr (3, [.ref w0, .ref w1, .ref w2])), (w0, .inl (k0, 17, .inl f0)), (w1, .inl (k1, 17, .inl f1)), (w2, .inl (k2, 17, .inl f2))] U.heap ∧ va_K (dC, dI) vwCl [(k0, .boolean), (k1, .int), (k2, .boolean)] U ∧ va_D (fun _ => True) [(h0, .inr (9, [.ref y0, .ref y1, .ref y2, .ref y3, .ref y4, .int 0, .ref y5, .int 2, .int 0, .ref y6, .int 0, .ref y7, .int 0, .ref y8, .int 0])), (y3, .inr (3, [.ref w0, .ref w1, .ref w2])), (w0, .inl (k0, 17, .inl f0)), (w1, .inl (k1, 17, .inl f1)), (w2, .inl (k2, 17, .inl f2))] ∧ nx U)) (va_Qi (fun (r : Int32) (u : Unit) => (r = 1 ∧ (v1.toInt = 2 ∨ ((v1.toInt = 0 ∨ v1.toInt = 1) ∧ 0 ≤ v2.toInt ∧ v2.toInt < 8))) ∨ (r = 0 ∧ ¬ (v1.toInt = 2 ∨ ((v1.toInt = 0 ∨ v1.toInt = 1) ∧ 0 ≤ v2.toInt ∧ v2.toInt < 8)))) (fun _ _ => True) (va_A [(h0, .inr (9, [.ref y0, .ref y1, .ref y2, .ref y3, .ref y4, .int 0, .ref y5, .int 2, .int 0, .ref y6, .int 0, .ref y7, .int 0, .ref y8, .int 0])), (y3, .inr (3, [.ref w0, .ref w1, .ref w2])), (w0, .inl (k0, 17, .inl f0)), (w1, .inl (k1, 17, .inl f1)), (w2, .inl (k2, 17, .inl f2))] sz)) 0 0 (va_A [(h0, .inr (9, [.ref y0, .ref y1, .ref y2, .ref y3, .ref y4, .int 0, .ref y5, .int 2, .int 0, .ref y6, .int 0, .ref y7, .int 0, .ref y8, .int 0])), (y3, .inr (3, [.ref w0, .ref w1, .ref w2])), (w0, .inl (k0, 17, .inl f0)), (w1, .inl (k1, 17, .inl f1)), (w2, .inl (k2, 17, .inl f2))] sz) := by
  refine Met.ofW (cc := cX9_handler) (maxL := 6) (ret := (some .boolean)) (by decide) rfl ?_
  intro p e s m args below meth c s₁ B hml hv
  obtain ⟨rfl, hsz, hP, hK, hD0, hN⟩ := hv
  have hx := B.exec
  have hb := B.bytes
  have hr := B.returns
  have hts := atoms_spec (ws := .code yX9_handler cX9_handler 6 (some .boolean) :: gw) B.pre
  have hg : ∀ w ∈ gw, w.before _ s = true := fun w h => hts w (List.mem_cons_of_mem _ h)
  have hown : s.vm.findClass RX9 = some m.cls := findClass_of_methodNamed B.named
  have hlocks := B.notSynchronized
  subst hsz
  have hD := hD0.self (sz := s.heap.size)
  generalize hAe : va_A [(h0, .inr (9, [.ref y0, .ref y1, .ref y2, .ref y3, .ref y4, .int 0, .ref y5, .int 2, .int 0, .ref y6, .int 0, .ref y7, .int 0, .ref y8, .int 0])), (y3, .inr (3, [.ref w0, .ref w1, .ref w2])), (w0, .inl (k0, 17, .inl f0)), (w1, .inl (k1, 17, .inl f1)), (w2, .inl (k2, 17, .inl f2))] s.heap.size = A at hD ⊢
  have hA : ∀ q : Nat, s.heap.size ≤ q → A q := fun q h => by rw [← hAe]; exact Or.inr h
  have hS : va_S A s.heap s.heap [] := va_S.rf
  have hP : va_P (dC, dI) vwCl [(h0, .inr (9, [.ref y0, .ref y1, .ref y2, .ref y3, .ref y4, .int 0, .ref y5, .int 2, .int 0, .ref y6, .int 0, .ref y7, .int 0, .ref y8, .int 0])), (y3, .inr (3, [.ref w0, .ref w1, .ref w2])), (w0, .inl (k0, 17, .inl f0)), (w1, .inl (k1, 17, .inl f1)), (w2, .inl (k2, 17, .inl f2))] s.heap := hP
  have hl := lv_entry ([.ref h0, .int v1, .int v2, .int v3, .int v4]) (n := 6) (Nat.le_of_ble_eq_true rfl)
  rw [lg_entry_eq]
  generalize (lg_sl ([.ref h0, .int v1, .int v2, .int v3, .int v4]) ++ List.replicate (6 - (lg_sl ([.ref h0, .int v1, .int v2, .int v3, .int v4])).length) Slot.unset).toArray = ls at hl ⊢
  have hl : lv_has ls 6 [(0, .ref h0), (1, .int v1), (2, .int v2), (3, .int v3), (4, .int v4)] := hl
  refine lv_iload_n hx hb dX9_handler_0 rfl (lv_at hl 1 rfl) ?_
  refine lv_iload_n hx hb dX9_handler_1 rfl (lv_at hl 2 rfl) ?_
  have hPc := hP.sub (ws' := []) [] rfl
  have hDc := hD.sub (ws' := []) [] (by decide) rfl
  have hKc := hK.sub (tys' := []) [] rfl
  have hFc := va_free (wc := []) hD hS hA [] rfl
  refine va_calli (va_runS (As := [.int v1, .int v2]) (rest := []) ⟨hx, hb, hml, hown, hg⟩ (c_X3_indexOf l dC dI v1 v2 s.heap.size ) (va_cwS 2 hg (gw_S gm_methodLink_RX9_103_yX3_indexOf gm_static_yX3_indexOf gm_initialized_RX3 gm_code_yX3_indexOf_cX3_indexOf_2_some_int_) rfl rfl rfl (by decide +kernel) ⟨Nat.le_of_ble_eq_true rfl, Nat.le_of_ble_eq_true rfl⟩) ⟨fun a U g mk q => by obtain ⟨q0, q1, qP, qK, qD, qN⟩ := q; exact ⟨q0, q1, qP, va_K.moved (u := U) (U := U.calling g mk a) (Vm.Alike.refl U.vm) qK, qD, nx_same (u := U) (U := U.calling g mk a) rfl qN⟩, fun U hU hW => ⟨rfl, by rw [hU], by rw [hU]; exact hPc, va_K.moved hW.alike hKc, hDc.weaken (fun _ _ _ _ => trivial), nx_warm hW hN⟩⟩ rfl rfl hl.1 rfl (lv_room (Nat.le_of_ble_eq_true rfl)) dX9_handler_2 ⟨Nat.le_of_ble_eq_true rfl, Nat.le_of_ble_eq_true rfl⟩) hS (fun q _ h => hFc q h) hFc (fun r_1 u_2 t H1 locs ht hvm hw hB hz1 hk1 hS => ?_)
  have hP1 : va_P (dC, dI) vwCl [] H1 := nil_P
  have hD1 := nil_D (A := va_A [] s.heap.size)
  obtain ⟨hP, hD⟩ := va_join (wr := [(h0, .inr (9, [.ref y0, .ref y1, .ref y2, .ref y3, .ref y4, .int 0, .ref y5, .int 2, .int 0, .ref y6, .int 0, .ref y7, .int 0, .ref y8, .int 0])), (y3, .inr (3, [.ref w0, .ref w1, .ref w2])), (w0, .inl (k0, 17, .inl f0)), (w1, .inl (k1, 17, .inl f1)), (w2, .inl (k2, 17, .inl f2))]) (w1 := []) hP hD [] [0, 1, 2, 3, 4] rfl rfl (by decide) (by decide +kernel) hk1 hFc hP1 hD1
  generalize H1 = H at hP hS ⊢
  have hP : va_P (dC, dI) vwCl [(h0, .inr (9, [.ref y0, .ref y1, .ref y2, .ref y3, .ref y4, .int 0, .ref y5, .int 2, .int 0, .ref y6, .int 0, .ref y7, .int 0, .ref y8, .int 0])), (y3, .inr (3, [.ref w0, .ref w1, .ref w2])), (w0, .inl (k0, 17, .inl f0)), (w1, .inl (k1, 17, .inl f1)), (w2, .inl (k2, 17, .inl f2))] H := hP
  have hD : va_D A [(h0, .inr (9, [.ref y0, .ref y1, .ref y2, .ref y3, .ref y4, .int 0, .ref y5, .int 2, .int 0, .ref y6, .int 0, .ref y7, .int 0, .ref y8, .int 0])), (y3, .inr (3, [.ref w0, .ref w1, .ref w2])), (w0, .inl (k0, 17, .inl f0)), (w1, .inl (k1, 17, .inl f1)), (w2, .inl (k2, 17, .inl f2))] := hD
  refine W.widen (k := 0) (n := 0) (Nat.le_of_ble_eq_true rfl) (Nat.le_of_ble_eq_true rfl) ?_
  have w_3 := hw
  try dsimp only at w_3
  refine lv_istore (lv' := [(5, .int r_1), (0, .ref h0), (1, .int v1), (2, .int v2), (3, .int v3), (4, .int v4)]) hx hb dX9_handler_5 hl (by decide) rfl (fun ls hl => ?_)
  refine lv_iload hx hb dX9_handler_7 (lv_at hl 0 rfl) ?_
  refine lv_iconst (v := -1) hx hb dX9_handler_9 (by decide) ?_
  refine lv_icmp_ne (tgt := 15) hx hb dX9_handler_10 (by decide) (fun c_4 => ?_) (fun c_4 => ?_)
  · simp only [i_lt, i_le, i_eq, ti_m1] at c_4
    refine lv_aload_n hx hb dX9_handler_15 rfl (lv_at hl 1 rfl) ?_
    refine va_get (D := (dC, dI)) (ci := 9) (v := .ref y3) (C := RX9) (T := TX9) (N := 15) hx hb hg gb_9 hown hK hP 0 rfl rfl 3 (by decide) (hg _ gm_fieldLink_RX9_25_ErrandGuild_handlers_LErrandGuild_Handlers_) (fun _ h9 => h9) rfl dX9_handler_16 ?_
    refine lv_iload hx hb dX9_handler_19 (lv_at hl 0 rfl) ?_
    refine lv_iload_n hx hb dX9_handler_21 rfl (lv_at hl 4 rfl) ?_
    refine lv_iload hx hb dX9_handler_22 (lv_at hl 5 rfl) ?_
    have hPc := hP.sub (ws' := [(y3, .inr (3, [.ref w0, .ref w1, .ref w2])), (w0, .inl (k0, 17, .inl f0)), (w1, .inl (k1, 17, .inl f1)), (w2, .inl (k2, 17, .inl f2))]) [1, 2, 3, 4] rfl
    have hDc := hD.sub (ws' := [(y3, .inr (3, [.ref w0, .ref w1, .ref w2])), (w0, .inl (k0, 17, .inl f0)), (w1, .inl (k1, 17, .inl f1)), (w2, .inl (k2, 17, .inl f2))]) [1, 2, 3, 4] (by decide) rfl
    have hKc := hK.sub (tys' := [(k0, .boolean), (k1, .int), (k2, .boolean)]) [0, 1, 2] rfl
    have hFc := va_free (wc := [(y3, .inr (3, [.ref w0, .ref w1, .ref w2])), (w0, .inl (k0, 17, .inl f0)), (w1, .inl (k1, 17, .inl f1)), (w2, .inl (k2, 17, .inl f2))]) hD hS hA [1, 2, 3, 4] rfl
    refine va_callv (va_runV (As := [.int r_1, .int v3, .int v4]) (rest := []) ⟨hx, hb, hml, hown, hg⟩ (c_X3_put l dC dI y3 w0 w1 w2 k0 k1 k2 f0 f1 f2 r_1 v3 v4 H.size ) (cwV 3 hg (gw_V gm_methodLink_RX9_107_yX3_put gm_instanceMethod_yX3_put gm_selects_RX3_yX3_put_yX3_put gm_initialized_RX3 gm_code_yX3_put_cX3_put_4_none) rfl rfl rfl (by decide +kernel) ⟨Nat.le_of_ble_eq_true rfl, Nat.le_of_ble_eq_true rfl⟩) ⟨fun a U g mk q => by obtain ⟨q0, q1, qP, qK, qD, qN⟩ := q; exact ⟨q0, q1, qP, va_K.moved (u := U) (U := U.calling g mk a) (Vm.Alike.refl U.vm) qK, qD, nx_same (u := U) (U := U.calling g mk a) rfl qN⟩, va_recv hKc hPc (ci := 3) (q0 := 0) rfl rfl, fun U hU hW => ⟨rfl, by rw [hU], by rw [hU]; exact hPc, va_K.moved hW.alike hKc, hDc.weaken (fun _ _ _ _ => trivial), nx_warm hW hN⟩⟩ rfl rfl hl.1 rfl (lv_room (Nat.le_of_ble_eq_true rfl)) dX9_handler_24 ⟨Nat.le_of_ble_eq_true rfl, Nat.le_of_ble_eq_true rfl⟩) hS (fun q _ h => hFc q h) hFc (fun u_6 t H1 locs ht hvm hw hB hz1 hk1 hS => ?_)
    have hP1 : va_P (dC, dI) vwCl [] H1 := nil_P
    have hD1 := nil_D (A := va_A [(y3, .inr (3, [.ref w0, .ref w1, .ref w2])), (w0, .inl (k0, 17, .inl f0)), (w1, .inl (k1, 17, .inl f1)), (w2, .inl (k2, 17, .inl f2))] H.size)
    obtain ⟨hP, hD⟩ := va_join (wr := [(h0, .inr (9, [.ref y0, .ref y1, .ref y2, .ref y3, .ref y4, .int 0, .ref y5, .int 2, .int 0, .ref y6, .int 0, .ref y7, .int 0, .ref y8, .int 0]))]) (w1 := []) hP hD [1, 2, 3, 4] [0] rfl rfl (by decide) (by decide +kernel) hk1 hFc hP1 hD1
    generalize H1 = H at hP hS ⊢
    have hP : va_P (dC, dI) vwCl [(h0, .inr (9, [.ref y0, .ref y1, .ref y2, .ref y3, .ref y4, .int 0, .ref y5, .int 2, .int 0, .ref y6, .int 0, .ref y7, .int 0, .ref y8, .int 0]))] H := hP
    have hD : va_D A [(h0, .inr (9, [.ref y0, .ref y1, .ref y2, .ref y3, .ref y4, .int 0, .ref y5, .int 2, .int 0, .ref y6, .int 0, .ref y7, .int 0, .ref y8, .int 0]))] := hD
    refine W.widen (k := 0) (n := 0) (Nat.le_of_ble_eq_true rfl) (Nat.le_of_ble_eq_true rfl) ?_
    refine lv_iconst (v := 1) hx hb dX9_handler_27 (by decide) ?_
    exact W.zret (v := 1) hx hb hr rfl (fun t ht hW => ⟨⟨1, (), rfl, (Or.inl ⟨rfl, by omega⟩), trivial⟩, hS.F ht⟩) hS.2.2 dX9_handler_28
  · simp only [i_lt, i_le, i_eq, ti_m1] at c_4
    refine lv_iconst (v := 0) hx hb dX9_handler_13 (by decide) ?_
    exact W.zret (v := 0) hx hb hr rfl (fun t ht hW => ⟨⟨0, (), rfl, (Or.inr ⟨rfl, by omega⟩), trivial⟩, hS.F ht⟩) hS.2.2 dX9_handler_14

set_option maxHeartbeats 4000000 in
set_option maxRecDepth 100000 in
theorem c_X9_errandAt (l : Launch) (dC : Nat → ClassId) (dI : Nat → Nat → Nat) (h0 : Nat) (y0 : Nat) (y1 : Nat) (y2 : Nat) (y3 : Nat) (y4 : Nat) (y5 : Nat) (y6 : Nat) (y7 : Nat) (y8 : Nat) (k2 : ClassId) (g : Nat → Option Nat) (v1 : Int32) (sz : Nat)  : Met l yX9_errandAt (.code yX9_errandAt cX9_errandAt 2 (some (.object "ErrandGuild$Errand")) :: gw) ({ frames := 1, cells := 0, slots := 0, locals := 20 }) (va_Pc [.ref h0, .int v1] (fun U => U.heap.size = sz ∧ va_P (dC, dI) vwCl [(h0, .inr (9, [.ref y0, .ref y1, .ref y2, .ref y3, .ref y4, .int 0, .ref y5, .int 2, .int 0, .ref y6, .int 0, .ref y7, .int 0, .ref y8, .int 0])), (y2, .inl (k2, 8, .inr (.inr (.inr (.inr g)))))] U.heap ∧ va_K (dC, dI) vwCl [(k2, .object RX1)] U ∧ va_D (fun _ => True) [(h0, .inr (9, [.ref y0, .ref y1, .ref y2, .ref y3, .ref y4, .int 0, .ref y5, .int 2, .int 0, .ref y6, .int 0, .ref y7, .int 0, .ref y8, .int 0])), (y2, .inl (k2, 8, .inr (.inr (.inr (.inr g)))))] ∧ nx U)) (va_Qq (fun (r : Option Nat) (u : Unit) => (r = g (Int32.toNatClampNeg v1) ∧ (0 ≤ v1.toInt ∧ v1.toInt < 8)) ∨ (r = none ∧ ¬ (0 ≤ v1.toInt ∧ v1.toInt < 8))) (fun _ t => va_P (dC, dI) vwCl [(h0, .inr (9, [.ref y0, .ref y1, .ref y2, .ref y3, .ref y4, .int 0, .ref y5, .int 2, .int 0, .ref y6, .int 0, .ref y7, .int 0, .ref y8, .int 0])), (y2, .inl (k2, 8, .inr (.inr (.inr (.inr g)))))] t.heap ∧ va_D (va_A [(h0, .inr (9, [.ref y0, .ref y1, .ref y2, .ref y3, .ref y4, .int 0, .ref y5, .int 2, .int 0, .ref y6, .int 0, .ref y7, .int 0, .ref y8, .int 0])), (y2, .inl (k2, 8, .inr (.inr (.inr (.inr g)))))] sz) [(h0, .inr (9, [.ref y0, .ref y1, .ref y2, .ref y3, .ref y4, .int 0, .ref y5, .int 2, .int 0, .ref y6, .int 0, .ref y7, .int 0, .ref y8, .int 0])), (y2, .inl (k2, 8, .inr (.inr (.inr (.inr g)))))]) (va_A [(h0, .inr (9, [.ref y0, .ref y1, .ref y2, .ref y3, .ref y4, .int 0, .ref y5, .int 2, .int 0, .ref y6, .int 0, .ref y7, .int 0, .ref y8, .int 0])), (y2, .inl (k2, 8, .inr (.inr (.inr (.inr g)))))] sz)) 0 0 (va_A [(h0, .inr (9, [.ref y0, .ref y1, .ref y2, .ref y3, .ref y4, .int 0, .ref y5, .int 2, .int 0, .ref y6, .int 0, .ref y7, .int 0, .ref y8, .int 0])), (y2, .inl (k2, 8, .inr (.inr (.inr (.inr g)))))] sz) := by
  refine Met.ofW (cc := cX9_errandAt) (maxL := 2) (ret := (some (.object "ErrandGuild$Errand"))) (by decide) rfl ?_
  intro p e s m args below meth c s₁ B hml hv
  obtain ⟨rfl, hsz, hP, hK, hD0, hN⟩ := hv
  have hx := B.exec
  have hb := B.bytes
  have hr := B.returns
  have hts := atoms_spec (ws := .code yX9_errandAt cX9_errandAt 2 (some (.object "ErrandGuild$Errand")) :: gw) B.pre
  have hg : ∀ w ∈ gw, w.before _ s = true := fun w h => hts w (List.mem_cons_of_mem _ h)
  have hown : s.vm.findClass RX9 = some m.cls := findClass_of_methodNamed B.named
  have hlocks := B.notSynchronized
  subst hsz
  have hD := hD0.self (sz := s.heap.size)
  generalize hAe : va_A [(h0, .inr (9, [.ref y0, .ref y1, .ref y2, .ref y3, .ref y4, .int 0, .ref y5, .int 2, .int 0, .ref y6, .int 0, .ref y7, .int 0, .ref y8, .int 0])), (y2, .inl (k2, 8, .inr (.inr (.inr (.inr g)))))] s.heap.size = A at hD ⊢
  have hA : ∀ q : Nat, s.heap.size ≤ q → A q := fun q h => by rw [← hAe]; exact Or.inr h
  have hS : va_S A s.heap s.heap [] := va_S.rf
  have hP : va_P (dC, dI) vwCl [(h0, .inr (9, [.ref y0, .ref y1, .ref y2, .ref y3, .ref y4, .int 0, .ref y5, .int 2, .int 0, .ref y6, .int 0, .ref y7, .int 0, .ref y8, .int 0])), (y2, .inl (k2, 8, .inr (.inr (.inr (.inr g)))))] s.heap := hP
  have hl := lv_entry ([.ref h0, .int v1]) (n := 2) (Nat.le_of_ble_eq_true rfl)
  rw [lg_entry_eq]
  generalize (lg_sl ([.ref h0, .int v1]) ++ List.replicate (2 - (lg_sl ([.ref h0, .int v1])).length) Slot.unset).toArray = ls at hl ⊢
  have hl : lv_has ls 2 [(0, .ref h0), (1, .int v1)] := hl
  refine lv_iload_n hx hb dX9_errandAt_0 rfl (lv_at hl 1 rfl) ?_
  have hPc := hP.sub (ws' := []) [] rfl
  have hDc := hD.sub (ws' := []) [] (by decide) rfl
  have hKc := hK.sub (tys' := []) [] rfl
  have hFc := va_free (wc := []) hD hS hA [] rfl
  refine va_calli (va_runS (As := [.int v1]) (rest := []) ⟨hx, hb, hml, hown, hg⟩ (c_X9_isErrand l dC dI v1 s.heap.size ) (va_cwS 1 hg (gw_S gm_methodLink_RX9_111_yX9_isErrand gm_static_yX9_isErrand gm_initialized_RX9 gm_code_yX9_isErrand_cX9_isErrand_1_some_boolean_) rfl rfl rfl (by decide +kernel) ⟨Nat.le_of_ble_eq_true rfl, Nat.le_of_ble_eq_true rfl⟩) ⟨fun a U g mk q => by obtain ⟨q0, q1, qP, qK, qD, qN⟩ := q; exact ⟨q0, q1, qP, va_K.moved (u := U) (U := U.calling g mk a) (Vm.Alike.refl U.vm) qK, qD, nx_same (u := U) (U := U.calling g mk a) rfl qN⟩, fun U hU hW => ⟨rfl, by rw [hU], by rw [hU]; exact hPc, va_K.moved hW.alike hKc, hDc.weaken (fun _ _ _ _ => trivial), nx_warm hW hN⟩⟩ rfl rfl hl.1 rfl (lv_room (Nat.le_of_ble_eq_true rfl)) dX9_errandAt_1 ⟨Nat.le_of_ble_eq_true rfl, Nat.le_of_ble_eq_true rfl⟩) hS (fun q _ h => hFc q h) hFc (fun r_1 u_2 t H1 locs ht hvm hw hB hz1 hk1 hS => ?_)
  have hP1 : va_P (dC, dI) vwCl [] H1 := nil_P
  have hD1 := nil_D (A := va_A [] s.heap.size)
  obtain ⟨hP, hD⟩ := va_join (wr := [(h0, .inr (9, [.ref y0, .ref y1, .ref y2, .ref y3, .ref y4, .int 0, .ref y5, .int 2, .int 0, .ref y6, .int 0, .ref y7, .int 0, .ref y8, .int 0])), (y2, .inl (k2, 8, .inr (.inr (.inr (.inr g)))))]) (w1 := []) hP hD [] [0, 1] rfl rfl (by decide) (by decide +kernel) hk1 hFc hP1 hD1
  generalize H1 = H at hP hS ⊢
  have hP : va_P (dC, dI) vwCl [(h0, .inr (9, [.ref y0, .ref y1, .ref y2, .ref y3, .ref y4, .int 0, .ref y5, .int 2, .int 0, .ref y6, .int 0, .ref y7, .int 0, .ref y8, .int 0])), (y2, .inl (k2, 8, .inr (.inr (.inr (.inr g)))))] H := hP
  have hD : va_D A [(h0, .inr (9, [.ref y0, .ref y1, .ref y2, .ref y3, .ref y4, .int 0, .ref y5, .int 2, .int 0, .ref y6, .int 0, .ref y7, .int 0, .ref y8, .int 0])), (y2, .inl (k2, 8, .inr (.inr (.inr (.inr g)))))] := hD
  refine W.widen (k := 0) (n := 0) (Nat.le_of_ble_eq_true rfl) (Nat.le_of_ble_eq_true rfl) ?_
  rcases hw with ⟨rfl, w_3⟩ | ⟨rfl, w_3⟩
  · refine lv_if_eq (tgt := 16) hx hb dX9_errandAt_4 (by decide) (fun c_4 => absurd c_4 (by decide)) (fun _ => ?_)
    refine lv_aload_n hx hb dX9_errandAt_7 rfl (lv_at hl 0 rfl) ?_
    refine va_get (D := (dC, dI)) (ci := 9) (v := .ref y2) (C := RX9) (T := TX9) (N := 15) hx hb hg gb_9 hown hK hP 0 rfl rfl 2 (by decide) (hg _ gm_fieldLink_RX9_18_ErrandGuild_errands_ALErrandGuild_Errand_) (fun _ h9 => h9) rfl dX9_errandAt_8 ?_
    refine lv_iload_n hx hb dX9_errandAt_11 rfl (lv_at hl 1 rfl) ?_
    refine va_aldq hx hb hK hP 1 0 rfl rfl (vp_in_iff.mpr ⟨by omega, by omega⟩) dX9_errandAt_12 ?_
    refine lv_goto (tgt := 17) hx hb dX9_errandAt_13 (by decide) ?_
    have hP9 := hP.sub (ws' := [(h0, .inr (9, [.ref y0, .ref y1, .ref y2, .ref y3, .ref y4, .int 0, .ref y5, .int 2, .int 0, .ref y6, .int 0, .ref y7, .int 0, .ref y8, .int 0])), (y2, .inl (k2, 8, .inr (.inr (.inr (.inr g)))))]) [0, 1] rfl
    have hD9 := hD.sub (ws' := [(h0, .inr (9, [.ref y0, .ref y1, .ref y2, .ref y3, .ref y4, .int 0, .ref y5, .int 2, .int 0, .ref y6, .int 0, .ref y7, .int 0, .ref y8, .int 0])), (y2, .inl (k2, 8, .inr (.inr (.inr (.inr g)))))]) [0, 1] (by decide) rfl
    exact W.aret (v := va_rf (g (Int32.toNatClampNeg v1))) hx hb hr (Or.inl ⟨_, rfl⟩) (va_rf_or _) (fun t ht hW => ⟨⟨g (Int32.toNatClampNeg v1), (), rfl, (Or.inl ⟨rfl, by omega⟩), by rw [ht]; exact hP9, hD9⟩, hS.F ht⟩) hS.2.2 dX9_errandAt_17
  · refine lv_if_eq (tgt := 16) hx hb dX9_errandAt_4 (by decide) (fun _ => ?_) (fun c_5 => absurd c_5 (by decide))
    refine lv_null hx hb dX9_errandAt_16 ?_
    have hP9 := hP.sub (ws' := [(h0, .inr (9, [.ref y0, .ref y1, .ref y2, .ref y3, .ref y4, .int 0, .ref y5, .int 2, .int 0, .ref y6, .int 0, .ref y7, .int 0, .ref y8, .int 0])), (y2, .inl (k2, 8, .inr (.inr (.inr (.inr g)))))]) [0, 1] rfl
    have hD9 := hD.sub (ws' := [(h0, .inr (9, [.ref y0, .ref y1, .ref y2, .ref y3, .ref y4, .int 0, .ref y5, .int 2, .int 0, .ref y6, .int 0, .ref y7, .int 0, .ref y8, .int 0])), (y2, .inl (k2, 8, .inr (.inr (.inr (.inr g)))))]) [0, 1] (by decide) rfl
    exact W.aret (v := .null) hx hb hr (Or.inl ⟨_, rfl⟩) (Or.inl rfl) (fun t ht hW => ⟨⟨none, (), rfl, (Or.inr ⟨rfl, by omega⟩), by rw [ht]; exact hP9, hD9⟩, hS.F ht⟩) hS.2.2 dX9_errandAt_17

set_option maxHeartbeats 4000000 in
set_option maxRecDepth 100000 in
theorem c_X9_step (l : Launch) (dC : Nat → ClassId) (dI : Nat → Nat → Nat) (h0 : Nat) (y0 : Nat) (y1 : Nat) (y2 : Nat) (y3 : Nat) (y4 : Nat) (y5 : Nat) (y6 : Nat) (y7 : Nat) (y8 : Nat) (qe : Nat) (w0 : Nat) (w1 : Nat) (w2 : Nat) (k2 : ClassId) (j0 : ClassId) (j1 : ClassId) (j2 : ClassId) (g : Nat → Option Nat) (f0 : Nat → Int32) (f1 : Nat → Int32) (f2 : Nat → Int32) (v1 : Int32) (v2 : Int32) (v3 : Int32) (v4 : Int32) (sz : Nat) (hge : 0 ≤ v1.toInt → v1.toInt < 8 → g (Int32.toNatClampNeg v1) = some qe) : Met l yX9_step (.code yX9_step cX9_step 6 (some .int) :: gw) ({ frames := 2, cells := 0, slots := 0, locals := 43 }) (va_Pc [.ref h0, .int v1, .int v2, .int v3, .int v4] (fun U => U.heap.size = sz ∧ va_P (dC, dI) vwCl [(h0, .inr (9, [.ref y0, .ref y1, .ref y2, .ref y3, .ref y4, .int 0, .ref y5, .int 2, .int 0, .ref y6, .int 0, .ref y7, .int 0, .ref y8, .int 0])), (y2, .inl (k2, 8, .inr (.inr (.inr (.inr g))))), (qe, .inr (1, [.ref w0, .ref w1, .ref w2, .int 0])), (w0, .inl (j0, 24, .inl f0)), (w1, .inl (j1, 24, .inl f1)), (w2, .inl (j2, 24, .inl f2))] U.heap ∧ va_K (dC, dI) vwCl [(k2, .object RX1), (j0, .int), (j1, .int), (j2, .int)] U ∧ va_D (fun _ => True) [(h0, .inr (9, [.ref y0, .ref y1, .ref y2, .ref y3, .ref y4, .int 0, .ref y5, .int 2, .int 0, .ref y6, .int 0, .ref y7, .int 0, .ref y8, .int 0])), (y2, .inl (k2, 8, .inr (.inr (.inr (.inr g))))), (qe, .inr (1, [.ref w0, .ref w1, .ref w2, .int 0])), (w0, .inl (j0, 24, .inl f0)), (w1, .inl (j1, 24, .inl f1)), (w2, .inl (j2, 24, .inl f2))] ∧ nx U)) (va_Qi (fun (r : Int32) (u : Unit) => (r = 1 ∧ (0 ≤ v1.toInt ∧ v1.toInt < 8 ∧ ((0 ≤ v2.toInt ∧ v2.toInt ≤ 3 ∧ 0 ≤ v3.toInt ∧ v3.toInt < 8) ∨ (v2.toInt = 4 ∧ 0 ≤ v3.toInt ∧ v3.toInt < 8 ∧ (v4.toInt = 0 ∨ v4.toInt = 1)) ∨ (v2.toInt = 5 ∧ 0 ≤ v3.toInt ∧ v3.toInt < 8 ∧ 2 ≤ v4.toInt ∧ v4.toInt ≤ 4) ∨ (v2.toInt = 8 ∧ 0 ≤ v3.toInt ∧ v3.toInt < 4) ∨ (v2.toInt = 9 ∧ 0 ≤ v3.toInt ∧ v3.toInt ≤ 8 ∧ 0 < v4.toInt ∧ v4.toInt ≤ 24) ∨ v2.toInt = 6 ∨ v2.toInt = 7 ∨ (10 ≤ v2.toInt ∧ v2.toInt ≤ 12)))) ∨ (r = (-1) ∧ ¬ (0 ≤ v1.toInt ∧ v1.toInt < 8 ∧ ((0 ≤ v2.toInt ∧ v2.toInt ≤ 3 ∧ 0 ≤ v3.toInt ∧ v3.toInt < 8) ∨ (v2.toInt = 4 ∧ 0 ≤ v3.toInt ∧ v3.toInt < 8 ∧ (v4.toInt = 0 ∨ v4.toInt = 1)) ∨ (v2.toInt = 5 ∧ 0 ≤ v3.toInt ∧ v3.toInt < 8 ∧ 2 ≤ v4.toInt ∧ v4.toInt ≤ 4) ∨ (v2.toInt = 8 ∧ 0 ≤ v3.toInt ∧ v3.toInt < 4) ∨ (v2.toInt = 9 ∧ 0 ≤ v3.toInt ∧ v3.toInt ≤ 8 ∧ 0 < v4.toInt ∧ v4.toInt ≤ 24) ∨ v2.toInt = 6 ∨ v2.toInt = 7 ∨ (10 ≤ v2.toInt ∧ v2.toInt ≤ 12))))) (fun _ _ => True) (va_A [(h0, .inr (9, [.ref y0, .ref y1, .ref y2, .ref y3, .ref y4, .int 0, .ref y5, .int 2, .int 0, .ref y6, .int 0, .ref y7, .int 0, .ref y8, .int 0])), (y2, .inl (k2, 8, .inr (.inr (.inr (.inr g))))), (qe, .inr (1, [.ref w0, .ref w1, .ref w2, .int 0])), (w0, .inl (j0, 24, .inl f0)), (w1, .inl (j1, 24, .inl f1)), (w2, .inl (j2, 24, .inl f2))] sz)) 0 0 (va_A [(h0, .inr (9, [.ref y0, .ref y1, .ref y2, .ref y3, .ref y4, .int 0, .ref y5, .int 2, .int 0, .ref y6, .int 0, .ref y7, .int 0, .ref y8, .int 0])), (y2, .inl (k2, 8, .inr (.inr (.inr (.inr g))))), (qe, .inr (1, [.ref w0, .ref w1, .ref w2, .int 0])), (w0, .inl (j0, 24, .inl f0)), (w1, .inl (j1, 24, .inl f1)), (w2, .inl (j2, 24, .inl f2))] sz) := by
  refine Met.ofW (cc := cX9_step) (maxL := 6) (ret := (some .int)) (by decide) rfl ?_
  intro p e s m args below meth c s₁ B hml hv
  obtain ⟨rfl, hsz, hP, hK, hD0, hN⟩ := hv
  have hx := B.exec
  have hb := B.bytes
  have hr := B.returns
  have hts := atoms_spec (ws := .code yX9_step cX9_step 6 (some .int) :: gw) B.pre
  have hg : ∀ w ∈ gw, w.before _ s = true := fun w h => hts w (List.mem_cons_of_mem _ h)
  have hown : s.vm.findClass RX9 = some m.cls := findClass_of_methodNamed B.named
  have hlocks := B.notSynchronized
  subst hsz
  have hD := hD0.self (sz := s.heap.size)
  generalize hAe : va_A [(h0, .inr (9, [.ref y0, .ref y1, .ref y2, .ref y3, .ref y4, .int 0, .ref y5, .int 2, .int 0, .ref y6, .int 0, .ref y7, .int 0, .ref y8, .int 0])), (y2, .inl (k2, 8, .inr (.inr (.inr (.inr g))))), (qe, .inr (1, [.ref w0, .ref w1, .ref w2, .int 0])), (w0, .inl (j0, 24, .inl f0)), (w1, .inl (j1, 24, .inl f1)), (w2, .inl (j2, 24, .inl f2))] s.heap.size = A at hD ⊢
  have hA : ∀ q : Nat, s.heap.size ≤ q → A q := fun q h => by rw [← hAe]; exact Or.inr h
  have hS : va_S A s.heap s.heap [] := va_S.rf
  have hP : va_P (dC, dI) vwCl [(h0, .inr (9, [.ref y0, .ref y1, .ref y2, .ref y3, .ref y4, .int 0, .ref y5, .int 2, .int 0, .ref y6, .int 0, .ref y7, .int 0, .ref y8, .int 0])), (y2, .inl (k2, 8, .inr (.inr (.inr (.inr g))))), (qe, .inr (1, [.ref w0, .ref w1, .ref w2, .int 0])), (w0, .inl (j0, 24, .inl f0)), (w1, .inl (j1, 24, .inl f1)), (w2, .inl (j2, 24, .inl f2))] s.heap := hP
  have hl := lv_entry ([.ref h0, .int v1, .int v2, .int v3, .int v4]) (n := 6) (Nat.le_of_ble_eq_true rfl)
  rw [lg_entry_eq]
  generalize (lg_sl ([.ref h0, .int v1, .int v2, .int v3, .int v4]) ++ List.replicate (6 - (lg_sl ([.ref h0, .int v1, .int v2, .int v3, .int v4])).length) Slot.unset).toArray = ls at hl ⊢
  have hl : lv_has ls 6 [(0, .ref h0), (1, .int v1), (2, .int v2), (3, .int v3), (4, .int v4)] := hl
  refine lv_aload_n hx hb dX9_step_0 rfl (lv_at hl 0 rfl) ?_
  refine lv_iload_n hx hb dX9_step_1 rfl (lv_at hl 1 rfl) ?_
  have hPc := hP.sub (ws' := [(h0, .inr (9, [.ref y0, .ref y1, .ref y2, .ref y3, .ref y4, .int 0, .ref y5, .int 2, .int 0, .ref y6, .int 0, .ref y7, .int 0, .ref y8, .int 0])), (y2, .inl (k2, 8, .inr (.inr (.inr (.inr g)))))]) [0, 1] rfl
  have hDc := hD.sub (ws' := [(h0, .inr (9, [.ref y0, .ref y1, .ref y2, .ref y3, .ref y4, .int 0, .ref y5, .int 2, .int 0, .ref y6, .int 0, .ref y7, .int 0, .ref y8, .int 0])), (y2, .inl (k2, 8, .inr (.inr (.inr (.inr g)))))]) [0, 1] (by decide) rfl
  have hKc := hK.sub (tys' := [(k2, .object RX1)]) [0] rfl
  have hFc := va_free (wc := [(h0, .inr (9, [.ref y0, .ref y1, .ref y2, .ref y3, .ref y4, .int 0, .ref y5, .int 2, .int 0, .ref y6, .int 0, .ref y7, .int 0, .ref y8, .int 0])), (y2, .inl (k2, 8, .inr (.inr (.inr (.inr g)))))]) hD hS hA [0, 1] rfl
  refine va_callq (va_runV (As := [.int v1]) (rest := []) ⟨hx, hb, hml, hown, hg⟩ (c_X9_errandAt l dC dI h0 y0 y1 y2 y3 y4 y5 y6 y7 y8 k2 g v1 s.heap.size ) (cwV 1 hg (gw_V gm_methodLink_RX9_69_yX9_errandAt gm_instanceMethod_yX9_errandAt gm_selects_RX9_yX9_errandAt_yX9_errandAt gm_initialized_RX9 gm_code_yX9_errandAt_cX9_errandAt_2_some_object_ErrandGuild_Errand_) rfl rfl rfl (by decide +kernel) ⟨Nat.le_of_ble_eq_true rfl, Nat.le_of_ble_eq_true rfl⟩) ⟨fun a U g mk q => by obtain ⟨q0, q1, qP, qK, qD, qN⟩ := q; exact ⟨q0, q1, qP, va_K.moved (u := U) (U := U.calling g mk a) (Vm.Alike.refl U.vm) qK, qD, nx_same (u := U) (U := U.calling g mk a) rfl qN⟩, va_recv hKc hPc (ci := 9) (q0 := 0) rfl rfl, fun U hU hW => ⟨rfl, by rw [hU], by rw [hU]; exact hPc, va_K.moved hW.alike hKc, hDc.weaken (fun _ _ _ _ => trivial), nx_warm hW hN⟩⟩ rfl rfl hl.1 rfl (lv_room (Nat.le_of_ble_eq_true rfl)) dX9_step_2 ⟨Nat.le_of_ble_eq_true rfl, Nat.le_of_ble_eq_true rfl⟩) hS (fun q _ h => hFc q h) hFc (fun r_1 u_2 t H1 locs ht hvm hw hB hz1 hk1 hS => ?_)
  obtain ⟨hP1, hD1⟩ := hB
  rw [ht] at hP1
  obtain ⟨hP, hD⟩ := va_join (wr := [(qe, .inr (1, [.ref w0, .ref w1, .ref w2, .int 0])), (w0, .inl (j0, 24, .inl f0)), (w1, .inl (j1, 24, .inl f1)), (w2, .inl (j2, 24, .inl f2))]) (w1 := [(h0, .inr (9, [.ref y0, .ref y1, .ref y2, .ref y3, .ref y4, .int 0, .ref y5, .int 2, .int 0, .ref y6, .int 0, .ref y7, .int 0, .ref y8, .int 0])), (y2, .inl (k2, 8, .inr (.inr (.inr (.inr g)))))]) hP hD [0, 1] [2, 3, 4, 5] rfl rfl (by decide) (by decide +kernel) hk1 hFc hP1 hD1
  generalize H1 = H at hP hS ⊢
  have hP : va_P (dC, dI) vwCl [(qe, .inr (1, [.ref w0, .ref w1, .ref w2, .int 0])), (w0, .inl (j0, 24, .inl f0)), (w1, .inl (j1, 24, .inl f1)), (w2, .inl (j2, 24, .inl f2)), (h0, .inr (9, [.ref y0, .ref y1, .ref y2, .ref y3, .ref y4, .int 0, .ref y5, .int 2, .int 0, .ref y6, .int 0, .ref y7, .int 0, .ref y8, .int 0])), (y2, .inl (k2, 8, .inr (.inr (.inr (.inr g)))))] H := hP
  have hD : va_D A [(qe, .inr (1, [.ref w0, .ref w1, .ref w2, .int 0])), (w0, .inl (j0, 24, .inl f0)), (w1, .inl (j1, 24, .inl f1)), (w2, .inl (j2, 24, .inl f2)), (h0, .inr (9, [.ref y0, .ref y1, .ref y2, .ref y3, .ref y4, .int 0, .ref y5, .int 2, .int 0, .ref y6, .int 0, .ref y7, .int 0, .ref y8, .int 0])), (y2, .inl (k2, 8, .inr (.inr (.inr (.inr g)))))] := hD
  refine W.widen (k := 0) (n := 0) (Nat.le_of_ble_eq_true rfl) (Nat.le_of_ble_eq_true rfl) ?_
  rcases hw with ⟨rfl, w_3⟩ | ⟨rfl, w_3⟩
  · rw [show g (Int32.toNatClampNeg v1) = some qe from hge (by omega) (by omega)]
    refine W.eq (g2 := F0 m 5 ls [.ref qe]) rfl ?_
    refine lv_astore (lv' := [(5, .ref qe), (0, .ref h0), (1, .int v1), (2, .int v2), (3, .int v3), (4, .int v4)]) hx hb dX9_step_5 hl (by decide) rfl (fun ls hl => ?_)
    refine lv_aload hx hb dX9_step_7 (lv_at hl 0 rfl) ?_
    refine lv_ifnull hx hb dX9_step_9 ?_
    refine lv_aload_n hx hb dX9_step_12 rfl (lv_at hl 1 rfl) ?_
    refine va_get (D := (dC, dI)) (ci := 9) (v := .int 0) (C := RX9) (T := TX9) (N := 15) hx hb hg gb_9 hown hK hP 4 rfl rfl 5 (by decide) (hg _ gm_fieldLink_RX9_66_ErrandGuild_runCount_I_) (fun _ h9 => h9) rfl dX9_step_13 ?_
    refine lv_if_le (tgt := 21) hx hb dX9_step_16 (by decide) (fun _ => ?_) (fun c_4 => absurd c_4 (by decide))
    refine lv_aload hx hb dX9_step_21 (lv_at hl 0 rfl) ?_
    refine va_get (D := (dC, dI)) (ci := 1) (v := .int 0) (C := RX1) (T := TX1) (N := 4) hx hb hg gb_1 hown hK hP 0 rfl rfl 3 (by decide) (hg _ gm_fieldLink_RX9_73_ErrandGuild_Errand_count_I_) (fun _ h9 => h9) rfl dX9_step_23 ?_
    refine lv_bipush (v := 24) hx hb dX9_step_26 (by decide) ?_
    refine lv_icmp_ge (tgt := 46) hx hb dX9_step_28 (by decide) (fun c_5 => absurd c_5 (by decide)) (fun _ => ?_)
    refine lv_iload_n hx hb dX9_step_31 rfl (lv_at hl 3 rfl) ?_
    refine lv_iload_n hx hb dX9_step_32 rfl (lv_at hl 4 rfl) ?_
    refine lv_iload hx hb dX9_step_33 (lv_at hl 5 rfl) ?_
    refine lv_aload hx hb dX9_step_35 (lv_at hl 0 rfl) ?_
    refine va_get (D := (dC, dI)) (ci := 1) (v := .int 0) (C := RX1) (T := TX1) (N := 4) hx hb hg gb_1 hown hK hP 0 rfl rfl 3 (by decide) (hg _ gm_fieldLink_RX9_73_ErrandGuild_Errand_count_I_) (fun _ h9 => h9) rfl dX9_step_37 ?_
    have hPc := hP.sub (ws' := []) [] rfl
    have hDc := hD.sub (ws' := []) [] (by decide) rfl
    have hKc := hK.sub (tys' := []) [] rfl
    have hFc := va_free (wc := []) hD hS hA [] rfl
    refine va_calli (va_runS (As := [.int v2, .int v3, .int v4, .int 0]) (rest := []) ⟨hx, hb, hml, hown, hg⟩ (c_X9_fits l dC dI v2 v3 v4 0 H.size ) (va_cwS 4 hg (gw_S gm_methodLink_RX9_76_yX9_fits gm_static_yX9_fits gm_initialized_RX9 gm_code_yX9_fits_cX9_fits_4_some_boolean_) rfl rfl rfl (by decide +kernel) ⟨Nat.le_of_ble_eq_true rfl, Nat.le_of_ble_eq_true rfl⟩) ⟨fun a U g mk q => by obtain ⟨q0, q1, qP, qK, qD, qN⟩ := q; exact ⟨q0, q1, qP, va_K.moved (u := U) (U := U.calling g mk a) (Vm.Alike.refl U.vm) qK, qD, nx_same (u := U) (U := U.calling g mk a) rfl qN⟩, fun U hU hW => ⟨rfl, by rw [hU], by rw [hU]; exact hPc, va_K.moved hW.alike hKc, hDc.weaken (fun _ _ _ _ => trivial), nx_warm hW hN⟩⟩ rfl rfl hl.1 rfl (lv_room (Nat.le_of_ble_eq_true rfl)) dX9_step_40 ⟨Nat.le_of_ble_eq_true rfl, Nat.le_of_ble_eq_true rfl⟩) hS (fun q _ h => hFc q h) hFc (fun r_6 u_7 t H1 locs ht hvm hw hB hz1 hk1 hS => ?_)
    have hP1 : va_P (dC, dI) vwCl [] H1 := nil_P
    have hD1 := nil_D (A := va_A [] H.size)
    obtain ⟨hP, hD⟩ := va_join (wr := [(qe, .inr (1, [.ref w0, .ref w1, .ref w2, .int 0])), (w0, .inl (j0, 24, .inl f0)), (w1, .inl (j1, 24, .inl f1)), (w2, .inl (j2, 24, .inl f2)), (h0, .inr (9, [.ref y0, .ref y1, .ref y2, .ref y3, .ref y4, .int 0, .ref y5, .int 2, .int 0, .ref y6, .int 0, .ref y7, .int 0, .ref y8, .int 0])), (y2, .inl (k2, 8, .inr (.inr (.inr (.inr g)))))]) (w1 := []) hP hD [] [0, 1, 2, 3, 4, 5] rfl rfl (by decide) (by decide +kernel) hk1 hFc hP1 hD1
    generalize H1 = H at hP hS ⊢
    have hP : va_P (dC, dI) vwCl [(qe, .inr (1, [.ref w0, .ref w1, .ref w2, .int 0])), (w0, .inl (j0, 24, .inl f0)), (w1, .inl (j1, 24, .inl f1)), (w2, .inl (j2, 24, .inl f2)), (h0, .inr (9, [.ref y0, .ref y1, .ref y2, .ref y3, .ref y4, .int 0, .ref y5, .int 2, .int 0, .ref y6, .int 0, .ref y7, .int 0, .ref y8, .int 0])), (y2, .inl (k2, 8, .inr (.inr (.inr (.inr g)))))] H := hP
    have hD : va_D A [(qe, .inr (1, [.ref w0, .ref w1, .ref w2, .int 0])), (w0, .inl (j0, 24, .inl f0)), (w1, .inl (j1, 24, .inl f1)), (w2, .inl (j2, 24, .inl f2)), (h0, .inr (9, [.ref y0, .ref y1, .ref y2, .ref y3, .ref y4, .int 0, .ref y5, .int 2, .int 0, .ref y6, .int 0, .ref y7, .int 0, .ref y8, .int 0])), (y2, .inl (k2, 8, .inr (.inr (.inr (.inr g)))))] := hD
    refine W.widen (k := 0) (n := 0) (Nat.le_of_ble_eq_true rfl) (Nat.le_of_ble_eq_true rfl) ?_
    rcases hw with ⟨rfl, w_8⟩ | ⟨rfl, w_8⟩
    · try simp only [ti_0] at w_8
      refine lv_if_ne (tgt := 48) hx hb dX9_step_43 (by decide) (fun _ => ?_) (fun c_9 => absurd c_9 (by decide))
      refine lv_aload hx hb dX9_step_48 (lv_at hl 0 rfl) ?_
      refine lv_iload_n hx hb dX9_step_50 rfl (lv_at hl 3 rfl) ?_
      refine lv_iload_n hx hb dX9_step_51 rfl (lv_at hl 4 rfl) ?_
      refine lv_iload hx hb dX9_step_52 (lv_at hl 5 rfl) ?_
      have hPc := hP.sub (ws' := [(qe, .inr (1, [.ref w0, .ref w1, .ref w2, .int 0])), (w0, .inl (j0, 24, .inl f0)), (w1, .inl (j1, 24, .inl f1)), (w2, .inl (j2, 24, .inl f2))]) [0, 1, 2, 3] rfl
      have hDc := hD.sub (ws' := [(qe, .inr (1, [.ref w0, .ref w1, .ref w2, .int 0])), (w0, .inl (j0, 24, .inl f0)), (w1, .inl (j1, 24, .inl f1)), (w2, .inl (j2, 24, .inl f2))]) [0, 1, 2, 3] (by decide) rfl
      have hKc := hK.sub (tys' := [(j0, .int), (j1, .int), (j2, .int)]) [1, 2, 3] rfl
      have hFc := va_free (wc := [(qe, .inr (1, [.ref w0, .ref w1, .ref w2, .int 0])), (w0, .inl (j0, 24, .inl f0)), (w1, .inl (j1, 24, .inl f1)), (w2, .inl (j2, 24, .inl f2))]) hD hS hA [0, 1, 2, 3] rfl
      refine va_callv (va_runV (As := [.int v2, .int v3, .int v4]) (rest := []) ⟨hx, hb, hml, hown, hg⟩ (c_X1_add l dC dI qe w0 w1 w2 j0 j1 j2 f0 f1 f2 v2 v3 v4 H.size ) (cwV 3 hg (gw_V gm_methodLink_RX9_80_yX1_add gm_instanceMethod_yX1_add gm_selects_RX1_yX1_add_yX1_add gm_initialized_RX1 gm_code_yX1_add_cX1_add_4_none) rfl rfl rfl (by decide +kernel) ⟨Nat.le_of_ble_eq_true rfl, Nat.le_of_ble_eq_true rfl⟩) ⟨fun a U g mk q => by obtain ⟨q0, q1, qP, qK, qD, qN⟩ := q; exact ⟨q0, q1, qP, va_K.moved (u := U) (U := U.calling g mk a) (Vm.Alike.refl U.vm) qK, qD, nx_same (u := U) (U := U.calling g mk a) rfl qN⟩, va_recv hKc hPc (ci := 1) (q0 := 0) rfl rfl, fun U hU hW => ⟨rfl, by rw [hU], by rw [hU]; exact hPc, va_K.moved hW.alike hKc, hDc.weaken (fun _ _ _ _ => trivial), nx_warm hW hN⟩⟩ rfl rfl hl.1 rfl (lv_room (Nat.le_of_ble_eq_true rfl)) dX9_step_54 ⟨Nat.le_of_ble_eq_true rfl, Nat.le_of_ble_eq_true rfl⟩) hS (fun q _ h => hFc q h) hFc (fun u_11 t H1 locs ht hvm hw hB hz1 hk1 hS => ?_)
      obtain ⟨ad_12, ac_13, af_14, ag_15⟩ := u_11
      obtain ⟨hP1, hD1, hK1⟩ := hB
      rw [ht] at hP1
      have hK1 := va_K.moved hvm.symm hK1
      obtain ⟨hP, hD⟩ := va_join (wr := [(h0, .inr (9, [.ref y0, .ref y1, .ref y2, .ref y3, .ref y4, .int 0, .ref y5, .int 2, .int 0, .ref y6, .int 0, .ref y7, .int 0, .ref y8, .int 0])), (y2, .inl (k2, 8, .inr (.inr (.inr (.inr g)))))]) (w1 := [(qe, .inr (1, [.ref w0, .ref w1, .ref w2, .int 1]))]) hP hD [0, 1, 2, 3] [4, 5] rfl rfl (by decide) (by decide +kernel) hk1 hFc hP1 hD1
      generalize H1 = H at hP hS ⊢
      have hP : va_P (dC, dI) vwCl [(h0, .inr (9, [.ref y0, .ref y1, .ref y2, .ref y3, .ref y4, .int 0, .ref y5, .int 2, .int 0, .ref y6, .int 0, .ref y7, .int 0, .ref y8, .int 0])), (y2, .inl (k2, 8, .inr (.inr (.inr (.inr g))))), (qe, .inr (1, [.ref w0, .ref w1, .ref w2, .int 1]))] H := hP
      have hD : va_D A [(h0, .inr (9, [.ref y0, .ref y1, .ref y2, .ref y3, .ref y4, .int 0, .ref y5, .int 2, .int 0, .ref y6, .int 0, .ref y7, .int 0, .ref y8, .int 0])), (y2, .inl (k2, 8, .inr (.inr (.inr (.inr g))))), (qe, .inr (1, [.ref w0, .ref w1, .ref w2, .int 1]))] := hD
      refine W.widen (k := 0) (n := 0) (Nat.le_of_ble_eq_true rfl) (Nat.le_of_ble_eq_true rfl) ?_
      refine lv_aload hx hb dX9_step_57 (lv_at hl 0 rfl) ?_
      refine va_get (D := (dC, dI)) (ci := 1) (v := .int 1) (C := RX1) (T := TX1) (N := 4) hx hb hg gb_1 hown hK hP 2 rfl rfl 3 (by decide) (hg _ gm_fieldLink_RX9_73_ErrandGuild_Errand_count_I_) (fun _ h9 => h9) rfl dX9_step_59 ?_
      exact W.iret (v := 1) hx hb hr (fun t ht hW => ⟨⟨1, (), rfl, (Or.inl ⟨rfl, by omega⟩), trivial⟩, hS.F ht⟩) hS.2.2 dX9_step_62
    · try simp only [ti_0] at w_8
      refine lv_if_ne (tgt := 48) hx hb dX9_step_43 (by decide) (fun c_16 => absurd c_16 (by decide)) (fun _ => ?_)
      refine lv_iconst (v := -1) hx hb dX9_step_46 (by decide) ?_
      exact W.iret (v := -1) hx hb hr (fun t ht hW => ⟨⟨-1, (), rfl, (Or.inr ⟨rfl, by omega⟩), trivial⟩, hS.F ht⟩) hS.2.2 dX9_step_47
  · refine W.eq (g2 := F0 m 5 ls [.null]) rfl ?_
    refine lv_astoreN (lv' := [(5, .null), (0, .ref h0), (1, .int v1), (2, .int v2), (3, .int v3), (4, .int v4)]) hx hb dX9_step_5 hl (by decide) rfl (fun ls hl => ?_)
    refine lv_aloadN hx hb dX9_step_7 (lv_at hl 0 rfl) ?_
    refine lv_ifnullN (tgt := 19) hx hb dX9_step_9 (by decide) ?_
    refine lv_iconst (v := -1) hx hb dX9_step_19 (by decide) ?_
    exact W.iret (v := -1) hx hb hr (fun t ht hW => ⟨⟨-1, (), rfl, (Or.inr ⟨rfl, by omega⟩), trivial⟩, hS.F ht⟩) hS.2.2 dX9_step_20

set_option maxHeartbeats 4000000 in
set_option maxRecDepth 100000 in
theorem c_X9_wipeErrands (l : Launch) (dC : Nat → ClassId) (dI : Nat → Nat → Nat) (h0 : Nat) (y0 : Nat) (y1 : Nat) (y2 : Nat) (y3 : Nat) (y4 : Nat) (y5 : Nat) (y6 : Nat) (y7 : Nat) (y8 : Nat) (k2 : ClassId) (g : Nat → Option Nat) (e0 : Nat) (e1 : Nat) (e2 : Nat) (e3 : Nat) (e4 : Nat) (e5 : Nat) (e6 : Nat) (e7 : Nat) (a00 : Nat) (a01 : Nat) (a02 : Nat) (a10 : Nat) (a11 : Nat) (a12 : Nat) (a20 : Nat) (a21 : Nat) (a22 : Nat) (a30 : Nat) (a31 : Nat) (a32 : Nat) (a40 : Nat) (a41 : Nat) (a42 : Nat) (a50 : Nat) (a51 : Nat) (a52 : Nat) (a60 : Nat) (a61 : Nat) (a62 : Nat) (a70 : Nat) (a71 : Nat) (a72 : Nat) (sz : Nat) (hg0 : g (Int32.toNatClampNeg 0) = some e0) (hg1 : g (Int32.toNatClampNeg 1) = some e1) (hg2 : g (Int32.toNatClampNeg 2) = some e2) (hg3 : g (Int32.toNatClampNeg 3) = some e3) (hg4 : g (Int32.toNatClampNeg 4) = some e4) (hg5 : g (Int32.toNatClampNeg 5) = some e5) (hg6 : g (Int32.toNatClampNeg 6) = some e6) (hg7 : g (Int32.toNatClampNeg 7) = some e7) : Met l yX9_wipeErrands (.code yX9_wipeErrands cX9_wipeErrands 3 none :: gw) ({ frames := 2, cells := 0, slots := 0, locals := 41 }) (va_Pc [.ref h0] (fun U => U.heap.size = sz ∧ va_P (dC, dI) vwCl [(h0, .inr (9, [.ref y0, .ref y1, .ref y2, .ref y3, .ref y4, .int 0, .ref y5, .int 2, .int 0, .ref y6, .int 0, .ref y7, .int 0, .ref y8, .int 0])), (y2, .inl (k2, 8, .inr (.inr (.inr (.inr g))))), (e0, .inr (1, [.ref a00, .ref a01, .ref a02, .int 0])), (e1, .inr (1, [.ref a10, .ref a11, .ref a12, .int 0])), (e2, .inr (1, [.ref a20, .ref a21, .ref a22, .int 0])), (e3, .inr (1, [.ref a30, .ref a31, .ref a32, .int 0])), (e4, .inr (1, [.ref a40, .ref a41, .ref a42, .int 0])), (e5, .inr (1, [.ref a50, .ref a51, .ref a52, .int 0])), (e6, .inr (1, [.ref a60, .ref a61, .ref a62, .int 0])), (e7, .inr (1, [.ref a70, .ref a71, .ref a72, .int 0]))] U.heap ∧ va_K (dC, dI) vwCl [(k2, .object RX1)] U ∧ va_D (fun _ => True) [(h0, .inr (9, [.ref y0, .ref y1, .ref y2, .ref y3, .ref y4, .int 0, .ref y5, .int 2, .int 0, .ref y6, .int 0, .ref y7, .int 0, .ref y8, .int 0])), (y2, .inl (k2, 8, .inr (.inr (.inr (.inr g))))), (e0, .inr (1, [.ref a00, .ref a01, .ref a02, .int 0])), (e1, .inr (1, [.ref a10, .ref a11, .ref a12, .int 0])), (e2, .inr (1, [.ref a20, .ref a21, .ref a22, .int 0])), (e3, .inr (1, [.ref a30, .ref a31, .ref a32, .int 0])), (e4, .inr (1, [.ref a40, .ref a41, .ref a42, .int 0])), (e5, .inr (1, [.ref a50, .ref a51, .ref a52, .int 0])), (e6, .inr (1, [.ref a60, .ref a61, .ref a62, .int 0])), (e7, .inr (1, [.ref a70, .ref a71, .ref a72, .int 0]))] ∧ nx U)) (va_Qv (fun (u : Unit) => True) (fun _ _ => True) (va_A [(h0, .inr (9, [.ref y0, .ref y1, .ref y2, .ref y3, .ref y4, .int 0, .ref y5, .int 2, .int 0, .ref y6, .int 0, .ref y7, .int 0, .ref y8, .int 0])), (y2, .inl (k2, 8, .inr (.inr (.inr (.inr g))))), (e0, .inr (1, [.ref a00, .ref a01, .ref a02, .int 0])), (e1, .inr (1, [.ref a10, .ref a11, .ref a12, .int 0])), (e2, .inr (1, [.ref a20, .ref a21, .ref a22, .int 0])), (e3, .inr (1, [.ref a30, .ref a31, .ref a32, .int 0])), (e4, .inr (1, [.ref a40, .ref a41, .ref a42, .int 0])), (e5, .inr (1, [.ref a50, .ref a51, .ref a52, .int 0])), (e6, .inr (1, [.ref a60, .ref a61, .ref a62, .int 0])), (e7, .inr (1, [.ref a70, .ref a71, .ref a72, .int 0]))] sz)) 0 0 (va_A [(h0, .inr (9, [.ref y0, .ref y1, .ref y2, .ref y3, .ref y4, .int 0, .ref y5, .int 2, .int 0, .ref y6, .int 0, .ref y7, .int 0, .ref y8, .int 0])), (y2, .inl (k2, 8, .inr (.inr (.inr (.inr g))))), (e0, .inr (1, [.ref a00, .ref a01, .ref a02, .int 0])), (e1, .inr (1, [.ref a10, .ref a11, .ref a12, .int 0])), (e2, .inr (1, [.ref a20, .ref a21, .ref a22, .int 0])), (e3, .inr (1, [.ref a30, .ref a31, .ref a32, .int 0])), (e4, .inr (1, [.ref a40, .ref a41, .ref a42, .int 0])), (e5, .inr (1, [.ref a50, .ref a51, .ref a52, .int 0])), (e6, .inr (1, [.ref a60, .ref a61, .ref a62, .int 0])), (e7, .inr (1, [.ref a70, .ref a71, .ref a72, .int 0]))] sz) := by
  refine Met.ofW (cc := cX9_wipeErrands) (maxL := 3) (ret := none) (by decide) rfl ?_
  intro p e s m args below meth c s₁ B hml hv
  obtain ⟨rfl, hsz, hP, hK, hD0, hN⟩ := hv
  have hx := B.exec
  have hb := B.bytes
  have hr := B.returns
  have hts := atoms_spec (ws := .code yX9_wipeErrands cX9_wipeErrands 3 none :: gw) B.pre
  have hg : ∀ w ∈ gw, w.before _ s = true := fun w h => hts w (List.mem_cons_of_mem _ h)
  have hown : s.vm.findClass RX9 = some m.cls := findClass_of_methodNamed B.named
  have hlocks := B.notSynchronized
  subst hsz
  have hD := hD0.self (sz := s.heap.size)
  generalize hAe : va_A [(h0, .inr (9, [.ref y0, .ref y1, .ref y2, .ref y3, .ref y4, .int 0, .ref y5, .int 2, .int 0, .ref y6, .int 0, .ref y7, .int 0, .ref y8, .int 0])), (y2, .inl (k2, 8, .inr (.inr (.inr (.inr g))))), (e0, .inr (1, [.ref a00, .ref a01, .ref a02, .int 0])), (e1, .inr (1, [.ref a10, .ref a11, .ref a12, .int 0])), (e2, .inr (1, [.ref a20, .ref a21, .ref a22, .int 0])), (e3, .inr (1, [.ref a30, .ref a31, .ref a32, .int 0])), (e4, .inr (1, [.ref a40, .ref a41, .ref a42, .int 0])), (e5, .inr (1, [.ref a50, .ref a51, .ref a52, .int 0])), (e6, .inr (1, [.ref a60, .ref a61, .ref a62, .int 0])), (e7, .inr (1, [.ref a70, .ref a71, .ref a72, .int 0]))] s.heap.size = A at hD ⊢
  have hA : ∀ q : Nat, s.heap.size ≤ q → A q := fun q h => by rw [← hAe]; exact Or.inr h
  have hS : va_S A s.heap s.heap [] := va_S.rf
  have hP : va_P (dC, dI) vwCl [(h0, .inr (9, [.ref y0, .ref y1, .ref y2, .ref y3, .ref y4, .int 0, .ref y5, .int 2, .int 0, .ref y6, .int 0, .ref y7, .int 0, .ref y8, .int 0])), (y2, .inl (k2, 8, .inr (.inr (.inr (.inr g))))), (e0, .inr (1, [.ref a00, .ref a01, .ref a02, .int 0])), (e1, .inr (1, [.ref a10, .ref a11, .ref a12, .int 0])), (e2, .inr (1, [.ref a20, .ref a21, .ref a22, .int 0])), (e3, .inr (1, [.ref a30, .ref a31, .ref a32, .int 0])), (e4, .inr (1, [.ref a40, .ref a41, .ref a42, .int 0])), (e5, .inr (1, [.ref a50, .ref a51, .ref a52, .int 0])), (e6, .inr (1, [.ref a60, .ref a61, .ref a62, .int 0])), (e7, .inr (1, [.ref a70, .ref a71, .ref a72, .int 0]))] s.heap := hP
  have hl := lv_entry ([.ref h0]) (n := 3) (Nat.le_of_ble_eq_true rfl)
  rw [lg_entry_eq]
  generalize (lg_sl ([.ref h0]) ++ List.replicate (3 - (lg_sl ([.ref h0])).length) Slot.unset).toArray = ls at hl ⊢
  have hl : lv_has ls 3 [(0, .ref h0)] := hl
  refine lv_iconst (v := 0) hx hb dX9_wipeErrands_0 (by decide) ?_
  refine lv_istore_n (lv' := [(1, .int 0), (0, .ref h0)]) hx hb dX9_wipeErrands_1 rfl hl (by decide) rfl (fun ls hl => ?_)
  refine lv_iload_n hx hb dX9_wipeErrands_2 rfl (lv_at hl 0 rfl) ?_
  refine lv_bipush (v := 8) hx hb dX9_wipeErrands_3 (by decide) ?_
  refine lv_icmp_ge (tgt := 29) hx hb dX9_wipeErrands_5 (by decide) (fun c_1 => absurd c_1 (by decide)) (fun _ => ?_)
  refine lv_aload_n hx hb dX9_wipeErrands_8 rfl (lv_at hl 1 rfl) ?_
  refine lv_iload_n hx hb dX9_wipeErrands_9 rfl (lv_at hl 0 rfl) ?_
  have hPc := hP.sub (ws' := [(h0, .inr (9, [.ref y0, .ref y1, .ref y2, .ref y3, .ref y4, .int 0, .ref y5, .int 2, .int 0, .ref y6, .int 0, .ref y7, .int 0, .ref y8, .int 0])), (y2, .inl (k2, 8, .inr (.inr (.inr (.inr g)))))]) [0, 1] rfl
  have hDc := hD.sub (ws' := [(h0, .inr (9, [.ref y0, .ref y1, .ref y2, .ref y3, .ref y4, .int 0, .ref y5, .int 2, .int 0, .ref y6, .int 0, .ref y7, .int 0, .ref y8, .int 0])), (y2, .inl (k2, 8, .inr (.inr (.inr (.inr g)))))]) [0, 1] (by decide) rfl
  have hKc := hK.sub (tys' := [(k2, .object RX1)]) [0] rfl
  have hFc := va_free (wc := [(h0, .inr (9, [.ref y0, .ref y1, .ref y2, .ref y3, .ref y4, .int 0, .ref y5, .int 2, .int 0, .ref y6, .int 0, .ref y7, .int 0, .ref y8, .int 0])), (y2, .inl (k2, 8, .inr (.inr (.inr (.inr g)))))]) hD hS hA [0, 1] rfl
  refine va_callq (va_runV (As := [.int 0]) (rest := []) ⟨hx, hb, hml, hown, hg⟩ (c_X9_errandAt l dC dI h0 y0 y1 y2 y3 y4 y5 y6 y7 y8 k2 g 0 s.heap.size ) (cwV 1 hg (gw_V gm_methodLink_RX9_69_yX9_errandAt gm_instanceMethod_yX9_errandAt gm_selects_RX9_yX9_errandAt_yX9_errandAt gm_initialized_RX9 gm_code_yX9_errandAt_cX9_errandAt_2_some_object_ErrandGuild_Errand_) rfl rfl rfl (by decide +kernel) ⟨Nat.le_of_ble_eq_true rfl, Nat.le_of_ble_eq_true rfl⟩) ⟨fun a U g mk q => by obtain ⟨q0, q1, qP, qK, qD, qN⟩ := q; exact ⟨q0, q1, qP, va_K.moved (u := U) (U := U.calling g mk a) (Vm.Alike.refl U.vm) qK, qD, nx_same (u := U) (U := U.calling g mk a) rfl qN⟩, va_recv hKc hPc (ci := 9) (q0 := 0) rfl rfl, fun U hU hW => ⟨rfl, by rw [hU], by rw [hU]; exact hPc, va_K.moved hW.alike hKc, hDc.weaken (fun _ _ _ _ => trivial), nx_warm hW hN⟩⟩ rfl rfl hl.1 rfl (lv_room (Nat.le_of_ble_eq_true rfl)) dX9_wipeErrands_10 ⟨Nat.le_of_ble_eq_true rfl, Nat.le_of_ble_eq_true rfl⟩) hS (fun q _ h => hFc q h) hFc (fun r_2 u_3 t H1 locs ht hvm hw hB hz1 hk1 hS => ?_)
  obtain ⟨hP1, hD1⟩ := hB
  rw [ht] at hP1
  obtain ⟨hP, hD⟩ := va_join (wr := [(e0, .inr (1, [.ref a00, .ref a01, .ref a02, .int 0])), (e1, .inr (1, [.ref a10, .ref a11, .ref a12, .int 0])), (e2, .inr (1, [.ref a20, .ref a21, .ref a22, .int 0])), (e3, .inr (1, [.ref a30, .ref a31, .ref a32, .int 0])), (e4, .inr (1, [.ref a40, .ref a41, .ref a42, .int 0])), (e5, .inr (1, [.ref a50, .ref a51, .ref a52, .int 0])), (e6, .inr (1, [.ref a60, .ref a61, .ref a62, .int 0])), (e7, .inr (1, [.ref a70, .ref a71, .ref a72, .int 0]))]) (w1 := [(h0, .inr (9, [.ref y0, .ref y1, .ref y2, .ref y3, .ref y4, .int 0, .ref y5, .int 2, .int 0, .ref y6, .int 0, .ref y7, .int 0, .ref y8, .int 0])), (y2, .inl (k2, 8, .inr (.inr (.inr (.inr g)))))]) hP hD [0, 1] [2, 3, 4, 5, 6, 7, 8, 9] rfl rfl (by decide) (by decide +kernel) hk1 hFc hP1 hD1
  generalize H1 = H at hP hS ⊢
  have hP : va_P (dC, dI) vwCl [(e0, .inr (1, [.ref a00, .ref a01, .ref a02, .int 0])), (e1, .inr (1, [.ref a10, .ref a11, .ref a12, .int 0])), (e2, .inr (1, [.ref a20, .ref a21, .ref a22, .int 0])), (e3, .inr (1, [.ref a30, .ref a31, .ref a32, .int 0])), (e4, .inr (1, [.ref a40, .ref a41, .ref a42, .int 0])), (e5, .inr (1, [.ref a50, .ref a51, .ref a52, .int 0])), (e6, .inr (1, [.ref a60, .ref a61, .ref a62, .int 0])), (e7, .inr (1, [.ref a70, .ref a71, .ref a72, .int 0])), (h0, .inr (9, [.ref y0, .ref y1, .ref y2, .ref y3, .ref y4, .int 0, .ref y5, .int 2, .int 0, .ref y6, .int 0, .ref y7, .int 0, .ref y8, .int 0])), (y2, .inl (k2, 8, .inr (.inr (.inr (.inr g)))))] H := hP
  have hD : va_D A [(e0, .inr (1, [.ref a00, .ref a01, .ref a02, .int 0])), (e1, .inr (1, [.ref a10, .ref a11, .ref a12, .int 0])), (e2, .inr (1, [.ref a20, .ref a21, .ref a22, .int 0])), (e3, .inr (1, [.ref a30, .ref a31, .ref a32, .int 0])), (e4, .inr (1, [.ref a40, .ref a41, .ref a42, .int 0])), (e5, .inr (1, [.ref a50, .ref a51, .ref a52, .int 0])), (e6, .inr (1, [.ref a60, .ref a61, .ref a62, .int 0])), (e7, .inr (1, [.ref a70, .ref a71, .ref a72, .int 0])), (h0, .inr (9, [.ref y0, .ref y1, .ref y2, .ref y3, .ref y4, .int 0, .ref y5, .int 2, .int 0, .ref y6, .int 0, .ref y7, .int 0, .ref y8, .int 0])), (y2, .inl (k2, 8, .inr (.inr (.inr (.inr g)))))] := hD
  refine W.widen (k := 0) (n := 0) (Nat.le_of_ble_eq_true rfl) (Nat.le_of_ble_eq_true rfl) ?_
  rcases hw with ⟨rfl, w_4⟩ | ⟨rfl, w_4⟩
  · try simp only [ti_0] at w_4
    rw [show g (Int32.toNatClampNeg 0) = some e0 from hg0]
    refine W.eq (g2 := F0 m 13 ls [.ref e0]) rfl ?_
    refine lv_astore_n (lv' := [(2, .ref e0), (1, .int 0), (0, .ref h0)]) hx hb dX9_wipeErrands_13 rfl hl (by decide) rfl (fun ls hl => ?_)
    refine lv_aload_n hx hb dX9_wipeErrands_14 rfl (lv_at hl 0 rfl) ?_
    refine lv_ifnull hx hb dX9_wipeErrands_15 ?_
    refine lv_aload_n hx hb dX9_wipeErrands_18 rfl (lv_at hl 0 rfl) ?_
    refine lv_iconst (v := 0) hx hb dX9_wipeErrands_19 (by decide) ?_
    refine va_put (D := (dC, dI)) (ci := 1) (v := .int 0) (ty := .int) (C := RX1) (T := TX1) (N := 4) hx hb hg gb_1 tyX1 tyX1_ok nmX1 hown hK hP hD hS 0 rfl rfl 3 (by decide) (hg _ gm_fieldLink_RX9_73_ErrandGuild_Errand_count_I_) (fun _ h9 => h9) rfl (by decide +kernel) rfl rfl (Nat.le_of_ble_eq_true rfl) dX9_wipeErrands_20 (fun H locs hP hD hS => ?_)
    have hP : va_P (dC, dI) vwCl [(e0, .inr (1, [.ref a00, .ref a01, .ref a02, .int 0])), (e1, .inr (1, [.ref a10, .ref a11, .ref a12, .int 0])), (e2, .inr (1, [.ref a20, .ref a21, .ref a22, .int 0])), (e3, .inr (1, [.ref a30, .ref a31, .ref a32, .int 0])), (e4, .inr (1, [.ref a40, .ref a41, .ref a42, .int 0])), (e5, .inr (1, [.ref a50, .ref a51, .ref a52, .int 0])), (e6, .inr (1, [.ref a60, .ref a61, .ref a62, .int 0])), (e7, .inr (1, [.ref a70, .ref a71, .ref a72, .int 0])), (h0, .inr (9, [.ref y0, .ref y1, .ref y2, .ref y3, .ref y4, .int 0, .ref y5, .int 2, .int 0, .ref y6, .int 0, .ref y7, .int 0, .ref y8, .int 0])), (y2, .inl (k2, 8, .inr (.inr (.inr (.inr g)))))] H := hP
    have hD : va_D A [(e0, .inr (1, [.ref a00, .ref a01, .ref a02, .int 0])), (e1, .inr (1, [.ref a10, .ref a11, .ref a12, .int 0])), (e2, .inr (1, [.ref a20, .ref a21, .ref a22, .int 0])), (e3, .inr (1, [.ref a30, .ref a31, .ref a32, .int 0])), (e4, .inr (1, [.ref a40, .ref a41, .ref a42, .int 0])), (e5, .inr (1, [.ref a50, .ref a51, .ref a52, .int 0])), (e6, .inr (1, [.ref a60, .ref a61, .ref a62, .int 0])), (e7, .inr (1, [.ref a70, .ref a71, .ref a72, .int 0])), (h0, .inr (9, [.ref y0, .ref y1, .ref y2, .ref y3, .ref y4, .int 0, .ref y5, .int 2, .int 0, .ref y6, .int 0, .ref y7, .int 0, .ref y8, .int 0])), (y2, .inl (k2, 8, .inr (.inr (.inr (.inr g)))))] := hD
    refine lv_iinc (v := 1) (lv' := [(1, .int 1), (2, .ref e0), (0, .ref h0)]) hx hb dX9_wipeErrands_23 hl (k := 1) rfl (by decide) (by decide) rfl (fun ls hl => ?_)
    refine lv_goto (tgt := 2) hx hb dX9_wipeErrands_26 (by decide) ?_
    refine lv_iload_n hx hb dX9_wipeErrands_2 rfl (lv_at hl 0 rfl) ?_
    refine lv_bipush (v := 8) hx hb dX9_wipeErrands_3 (by decide) ?_
    refine lv_icmp_ge (tgt := 29) hx hb dX9_wipeErrands_5 (by decide) (fun c_5 => absurd c_5 (by decide)) (fun _ => ?_)
    refine lv_aload_n hx hb dX9_wipeErrands_8 rfl (lv_at hl 2 rfl) ?_
    refine lv_iload_n hx hb dX9_wipeErrands_9 rfl (lv_at hl 0 rfl) ?_
    have hPc := hP.sub (ws' := [(h0, .inr (9, [.ref y0, .ref y1, .ref y2, .ref y3, .ref y4, .int 0, .ref y5, .int 2, .int 0, .ref y6, .int 0, .ref y7, .int 0, .ref y8, .int 0])), (y2, .inl (k2, 8, .inr (.inr (.inr (.inr g)))))]) [8, 9] rfl
    have hDc := hD.sub (ws' := [(h0, .inr (9, [.ref y0, .ref y1, .ref y2, .ref y3, .ref y4, .int 0, .ref y5, .int 2, .int 0, .ref y6, .int 0, .ref y7, .int 0, .ref y8, .int 0])), (y2, .inl (k2, 8, .inr (.inr (.inr (.inr g)))))]) [8, 9] (by decide) rfl
    have hKc := hK.sub (tys' := [(k2, .object RX1)]) [0] rfl
    have hFc := va_free (wc := [(h0, .inr (9, [.ref y0, .ref y1, .ref y2, .ref y3, .ref y4, .int 0, .ref y5, .int 2, .int 0, .ref y6, .int 0, .ref y7, .int 0, .ref y8, .int 0])), (y2, .inl (k2, 8, .inr (.inr (.inr (.inr g)))))]) hD hS hA [8, 9] rfl
    refine va_callq (va_runV (As := [.int 1]) (rest := []) ⟨hx, hb, hml, hown, hg⟩ (c_X9_errandAt l dC dI h0 y0 y1 y2 y3 y4 y5 y6 y7 y8 k2 g 1 H.size ) (cwV 1 hg (gw_V gm_methodLink_RX9_69_yX9_errandAt gm_instanceMethod_yX9_errandAt gm_selects_RX9_yX9_errandAt_yX9_errandAt gm_initialized_RX9 gm_code_yX9_errandAt_cX9_errandAt_2_some_object_ErrandGuild_Errand_) rfl rfl rfl (by decide +kernel) ⟨Nat.le_of_ble_eq_true rfl, Nat.le_of_ble_eq_true rfl⟩) ⟨fun a U g mk q => by obtain ⟨q0, q1, qP, qK, qD, qN⟩ := q; exact ⟨q0, q1, qP, va_K.moved (u := U) (U := U.calling g mk a) (Vm.Alike.refl U.vm) qK, qD, nx_same (u := U) (U := U.calling g mk a) rfl qN⟩, va_recv hKc hPc (ci := 9) (q0 := 0) rfl rfl, fun U hU hW => ⟨rfl, by rw [hU], by rw [hU]; exact hPc, va_K.moved hW.alike hKc, hDc.weaken (fun _ _ _ _ => trivial), nx_warm hW hN⟩⟩ rfl rfl hl.1 rfl (lv_room (Nat.le_of_ble_eq_true rfl)) dX9_wipeErrands_10 ⟨Nat.le_of_ble_eq_true rfl, Nat.le_of_ble_eq_true rfl⟩) hS (fun q _ h => hFc q h) hFc (fun r_6 u_7 t H1 locs ht hvm hw hB hz1 hk1 hS => ?_)
    obtain ⟨hP1, hD1⟩ := hB
    rw [ht] at hP1
    obtain ⟨hP, hD⟩ := va_join (wr := [(e0, .inr (1, [.ref a00, .ref a01, .ref a02, .int 0])), (e1, .inr (1, [.ref a10, .ref a11, .ref a12, .int 0])), (e2, .inr (1, [.ref a20, .ref a21, .ref a22, .int 0])), (e3, .inr (1, [.ref a30, .ref a31, .ref a32, .int 0])), (e4, .inr (1, [.ref a40, .ref a41, .ref a42, .int 0])), (e5, .inr (1, [.ref a50, .ref a51, .ref a52, .int 0])), (e6, .inr (1, [.ref a60, .ref a61, .ref a62, .int 0])), (e7, .inr (1, [.ref a70, .ref a71, .ref a72, .int 0]))]) (w1 := [(h0, .inr (9, [.ref y0, .ref y1, .ref y2, .ref y3, .ref y4, .int 0, .ref y5, .int 2, .int 0, .ref y6, .int 0, .ref y7, .int 0, .ref y8, .int 0])), (y2, .inl (k2, 8, .inr (.inr (.inr (.inr g)))))]) hP hD [8, 9] [0, 1, 2, 3, 4, 5, 6, 7] rfl rfl (by decide) (by decide +kernel) hk1 hFc hP1 hD1
    generalize H1 = H at hP hS ⊢
    have hP : va_P (dC, dI) vwCl [(e0, .inr (1, [.ref a00, .ref a01, .ref a02, .int 0])), (e1, .inr (1, [.ref a10, .ref a11, .ref a12, .int 0])), (e2, .inr (1, [.ref a20, .ref a21, .ref a22, .int 0])), (e3, .inr (1, [.ref a30, .ref a31, .ref a32, .int 0])), (e4, .inr (1, [.ref a40, .ref a41, .ref a42, .int 0])), (e5, .inr (1, [.ref a50, .ref a51, .ref a52, .int 0])), (e6, .inr (1, [.ref a60, .ref a61, .ref a62, .int 0])), (e7, .inr (1, [.ref a70, .ref a71, .ref a72, .int 0])), (h0, .inr (9, [.ref y0, .ref y1, .ref y2, .ref y3, .ref y4, .int 0, .ref y5, .int 2, .int 0, .ref y6, .int 0, .ref y7, .int 0, .ref y8, .int 0])), (y2, .inl (k2, 8, .inr (.inr (.inr (.inr g)))))] H := hP
    have hD : va_D A [(e0, .inr (1, [.ref a00, .ref a01, .ref a02, .int 0])), (e1, .inr (1, [.ref a10, .ref a11, .ref a12, .int 0])), (e2, .inr (1, [.ref a20, .ref a21, .ref a22, .int 0])), (e3, .inr (1, [.ref a30, .ref a31, .ref a32, .int 0])), (e4, .inr (1, [.ref a40, .ref a41, .ref a42, .int 0])), (e5, .inr (1, [.ref a50, .ref a51, .ref a52, .int 0])), (e6, .inr (1, [.ref a60, .ref a61, .ref a62, .int 0])), (e7, .inr (1, [.ref a70, .ref a71, .ref a72, .int 0])), (h0, .inr (9, [.ref y0, .ref y1, .ref y2, .ref y3, .ref y4, .int 0, .ref y5, .int 2, .int 0, .ref y6, .int 0, .ref y7, .int 0, .ref y8, .int 0])), (y2, .inl (k2, 8, .inr (.inr (.inr (.inr g)))))] := hD
    refine W.widen (k := 0) (n := 0) (Nat.le_of_ble_eq_true rfl) (Nat.le_of_ble_eq_true rfl) ?_
    rcases hw with ⟨rfl, w_8⟩ | ⟨rfl, w_8⟩
    · try simp only [ti_1] at w_8
      rw [show g (Int32.toNatClampNeg 1) = some e1 from hg1]
      refine W.eq (g2 := F0 m 13 ls [.ref e1]) rfl ?_
      refine lv_astore_n (lv' := [(2, .ref e1), (1, .int 1), (0, .ref h0)]) hx hb dX9_wipeErrands_13 rfl hl (by decide) rfl (fun ls hl => ?_)
      refine lv_aload_n hx hb dX9_wipeErrands_14 rfl (lv_at hl 0 rfl) ?_
      refine lv_ifnull hx hb dX9_wipeErrands_15 ?_
      refine lv_aload_n hx hb dX9_wipeErrands_18 rfl (lv_at hl 0 rfl) ?_
      refine lv_iconst (v := 0) hx hb dX9_wipeErrands_19 (by decide) ?_
      refine va_put (D := (dC, dI)) (ci := 1) (v := .int 0) (ty := .int) (C := RX1) (T := TX1) (N := 4) hx hb hg gb_1 tyX1 tyX1_ok nmX1 hown hK hP hD hS 1 rfl rfl 3 (by decide) (hg _ gm_fieldLink_RX9_73_ErrandGuild_Errand_count_I_) (fun _ h9 => h9) rfl (by decide +kernel) rfl rfl (Nat.le_of_ble_eq_true rfl) dX9_wipeErrands_20 (fun H locs hP hD hS => ?_)
      have hP : va_P (dC, dI) vwCl [(e0, .inr (1, [.ref a00, .ref a01, .ref a02, .int 0])), (e1, .inr (1, [.ref a10, .ref a11, .ref a12, .int 0])), (e2, .inr (1, [.ref a20, .ref a21, .ref a22, .int 0])), (e3, .inr (1, [.ref a30, .ref a31, .ref a32, .int 0])), (e4, .inr (1, [.ref a40, .ref a41, .ref a42, .int 0])), (e5, .inr (1, [.ref a50, .ref a51, .ref a52, .int 0])), (e6, .inr (1, [.ref a60, .ref a61, .ref a62, .int 0])), (e7, .inr (1, [.ref a70, .ref a71, .ref a72, .int 0])), (h0, .inr (9, [.ref y0, .ref y1, .ref y2, .ref y3, .ref y4, .int 0, .ref y5, .int 2, .int 0, .ref y6, .int 0, .ref y7, .int 0, .ref y8, .int 0])), (y2, .inl (k2, 8, .inr (.inr (.inr (.inr g)))))] H := hP
      have hD : va_D A [(e0, .inr (1, [.ref a00, .ref a01, .ref a02, .int 0])), (e1, .inr (1, [.ref a10, .ref a11, .ref a12, .int 0])), (e2, .inr (1, [.ref a20, .ref a21, .ref a22, .int 0])), (e3, .inr (1, [.ref a30, .ref a31, .ref a32, .int 0])), (e4, .inr (1, [.ref a40, .ref a41, .ref a42, .int 0])), (e5, .inr (1, [.ref a50, .ref a51, .ref a52, .int 0])), (e6, .inr (1, [.ref a60, .ref a61, .ref a62, .int 0])), (e7, .inr (1, [.ref a70, .ref a71, .ref a72, .int 0])), (h0, .inr (9, [.ref y0, .ref y1, .ref y2, .ref y3, .ref y4, .int 0, .ref y5, .int 2, .int 0, .ref y6, .int 0, .ref y7, .int 0, .ref y8, .int 0])), (y2, .inl (k2, 8, .inr (.inr (.inr (.inr g)))))] := hD
      refine lv_iinc (v := 2) (lv' := [(1, .int 2), (2, .ref e1), (0, .ref h0)]) hx hb dX9_wipeErrands_23 hl (k := 1) rfl (by decide) (by decide) rfl (fun ls hl => ?_)
      refine lv_goto (tgt := 2) hx hb dX9_wipeErrands_26 (by decide) ?_
      refine lv_iload_n hx hb dX9_wipeErrands_2 rfl (lv_at hl 0 rfl) ?_
      refine lv_bipush (v := 8) hx hb dX9_wipeErrands_3 (by decide) ?_
      refine lv_icmp_ge (tgt := 29) hx hb dX9_wipeErrands_5 (by decide) (fun c_9 => absurd c_9 (by decide)) (fun _ => ?_)
      refine lv_aload_n hx hb dX9_wipeErrands_8 rfl (lv_at hl 2 rfl) ?_
      refine lv_iload_n hx hb dX9_wipeErrands_9 rfl (lv_at hl 0 rfl) ?_
      have hPc := hP.sub (ws' := [(h0, .inr (9, [.ref y0, .ref y1, .ref y2, .ref y3, .ref y4, .int 0, .ref y5, .int 2, .int 0, .ref y6, .int 0, .ref y7, .int 0, .ref y8, .int 0])), (y2, .inl (k2, 8, .inr (.inr (.inr (.inr g)))))]) [8, 9] rfl
      have hDc := hD.sub (ws' := [(h0, .inr (9, [.ref y0, .ref y1, .ref y2, .ref y3, .ref y4, .int 0, .ref y5, .int 2, .int 0, .ref y6, .int 0, .ref y7, .int 0, .ref y8, .int 0])), (y2, .inl (k2, 8, .inr (.inr (.inr (.inr g)))))]) [8, 9] (by decide) rfl
      have hKc := hK.sub (tys' := [(k2, .object RX1)]) [0] rfl
      have hFc := va_free (wc := [(h0, .inr (9, [.ref y0, .ref y1, .ref y2, .ref y3, .ref y4, .int 0, .ref y5, .int 2, .int 0, .ref y6, .int 0, .ref y7, .int 0, .ref y8, .int 0])), (y2, .inl (k2, 8, .inr (.inr (.inr (.inr g)))))]) hD hS hA [8, 9] rfl
      refine va_callq (va_runV (As := [.int 2]) (rest := []) ⟨hx, hb, hml, hown, hg⟩ (c_X9_errandAt l dC dI h0 y0 y1 y2 y3 y4 y5 y6 y7 y8 k2 g 2 H.size ) (cwV 1 hg (gw_V gm_methodLink_RX9_69_yX9_errandAt gm_instanceMethod_yX9_errandAt gm_selects_RX9_yX9_errandAt_yX9_errandAt gm_initialized_RX9 gm_code_yX9_errandAt_cX9_errandAt_2_some_object_ErrandGuild_Errand_) rfl rfl rfl (by decide +kernel) ⟨Nat.le_of_ble_eq_true rfl, Nat.le_of_ble_eq_true rfl⟩) ⟨fun a U g mk q => by obtain ⟨q0, q1, qP, qK, qD, qN⟩ := q; exact ⟨q0, q1, qP, va_K.moved (u := U) (U := U.calling g mk a) (Vm.Alike.refl U.vm) qK, qD, nx_same (u := U) (U := U.calling g mk a) rfl qN⟩, va_recv hKc hPc (ci := 9) (q0 := 0) rfl rfl, fun U hU hW => ⟨rfl, by rw [hU], by rw [hU]; exact hPc, va_K.moved hW.alike hKc, hDc.weaken (fun _ _ _ _ => trivial), nx_warm hW hN⟩⟩ rfl rfl hl.1 rfl (lv_room (Nat.le_of_ble_eq_true rfl)) dX9_wipeErrands_10 ⟨Nat.le_of_ble_eq_true rfl, Nat.le_of_ble_eq_true rfl⟩) hS (fun q _ h => hFc q h) hFc (fun r_10 u_11 t H1 locs ht hvm hw hB hz1 hk1 hS => ?_)
      obtain ⟨hP1, hD1⟩ := hB
      rw [ht] at hP1
      obtain ⟨hP, hD⟩ := va_join (wr := [(e0, .inr (1, [.ref a00, .ref a01, .ref a02, .int 0])), (e1, .inr (1, [.ref a10, .ref a11, .ref a12, .int 0])), (e2, .inr (1, [.ref a20, .ref a21, .ref a22, .int 0])), (e3, .inr (1, [.ref a30, .ref a31, .ref a32, .int 0])), (e4, .inr (1, [.ref a40, .ref a41, .ref a42, .int 0])), (e5, .inr (1, [.ref a50, .ref a51, .ref a52, .int 0])), (e6, .inr (1, [.ref a60, .ref a61, .ref a62, .int 0])), (e7, .inr (1, [.ref a70, .ref a71, .ref a72, .int 0]))]) (w1 := [(h0, .inr (9, [.ref y0, .ref y1, .ref y2, .ref y3, .ref y4, .int 0, .ref y5, .int 2, .int 0, .ref y6, .int 0, .ref y7, .int 0, .ref y8, .int 0])), (y2, .inl (k2, 8, .inr (.inr (.inr (.inr g)))))]) hP hD [8, 9] [0, 1, 2, 3, 4, 5, 6, 7] rfl rfl (by decide) (by decide +kernel) hk1 hFc hP1 hD1
      generalize H1 = H at hP hS ⊢
      have hP : va_P (dC, dI) vwCl [(e0, .inr (1, [.ref a00, .ref a01, .ref a02, .int 0])), (e1, .inr (1, [.ref a10, .ref a11, .ref a12, .int 0])), (e2, .inr (1, [.ref a20, .ref a21, .ref a22, .int 0])), (e3, .inr (1, [.ref a30, .ref a31, .ref a32, .int 0])), (e4, .inr (1, [.ref a40, .ref a41, .ref a42, .int 0])), (e5, .inr (1, [.ref a50, .ref a51, .ref a52, .int 0])), (e6, .inr (1, [.ref a60, .ref a61, .ref a62, .int 0])), (e7, .inr (1, [.ref a70, .ref a71, .ref a72, .int 0])), (h0, .inr (9, [.ref y0, .ref y1, .ref y2, .ref y3, .ref y4, .int 0, .ref y5, .int 2, .int 0, .ref y6, .int 0, .ref y7, .int 0, .ref y8, .int 0])), (y2, .inl (k2, 8, .inr (.inr (.inr (.inr g)))))] H := hP
      have hD : va_D A [(e0, .inr (1, [.ref a00, .ref a01, .ref a02, .int 0])), (e1, .inr (1, [.ref a10, .ref a11, .ref a12, .int 0])), (e2, .inr (1, [.ref a20, .ref a21, .ref a22, .int 0])), (e3, .inr (1, [.ref a30, .ref a31, .ref a32, .int 0])), (e4, .inr (1, [.ref a40, .ref a41, .ref a42, .int 0])), (e5, .inr (1, [.ref a50, .ref a51, .ref a52, .int 0])), (e6, .inr (1, [.ref a60, .ref a61, .ref a62, .int 0])), (e7, .inr (1, [.ref a70, .ref a71, .ref a72, .int 0])), (h0, .inr (9, [.ref y0, .ref y1, .ref y2, .ref y3, .ref y4, .int 0, .ref y5, .int 2, .int 0, .ref y6, .int 0, .ref y7, .int 0, .ref y8, .int 0])), (y2, .inl (k2, 8, .inr (.inr (.inr (.inr g)))))] := hD
      refine W.widen (k := 0) (n := 0) (Nat.le_of_ble_eq_true rfl) (Nat.le_of_ble_eq_true rfl) ?_
      rcases hw with ⟨rfl, w_12⟩ | ⟨rfl, w_12⟩
      · try simp only [ti_2] at w_12
        rw [show g (Int32.toNatClampNeg 2) = some e2 from hg2]
        refine W.eq (g2 := F0 m 13 ls [.ref e2]) rfl ?_
        refine lv_astore_n (lv' := [(2, .ref e2), (1, .int 2), (0, .ref h0)]) hx hb dX9_wipeErrands_13 rfl hl (by decide) rfl (fun ls hl => ?_)
        refine lv_aload_n hx hb dX9_wipeErrands_14 rfl (lv_at hl 0 rfl) ?_
        refine lv_ifnull hx hb dX9_wipeErrands_15 ?_
        refine lv_aload_n hx hb dX9_wipeErrands_18 rfl (lv_at hl 0 rfl) ?_
        refine lv_iconst (v := 0) hx hb dX9_wipeErrands_19 (by decide) ?_
        refine va_put (D := (dC, dI)) (ci := 1) (v := .int 0) (ty := .int) (C := RX1) (T := TX1) (N := 4) hx hb hg gb_1 tyX1 tyX1_ok nmX1 hown hK hP hD hS 2 rfl rfl 3 (by decide) (hg _ gm_fieldLink_RX9_73_ErrandGuild_Errand_count_I_) (fun _ h9 => h9) rfl (by decide +kernel) rfl rfl (Nat.le_of_ble_eq_true rfl) dX9_wipeErrands_20 (fun H locs hP hD hS => ?_)
        have hP : va_P (dC, dI) vwCl [(e0, .inr (1, [.ref a00, .ref a01, .ref a02, .int 0])), (e1, .inr (1, [.ref a10, .ref a11, .ref a12, .int 0])), (e2, .inr (1, [.ref a20, .ref a21, .ref a22, .int 0])), (e3, .inr (1, [.ref a30, .ref a31, .ref a32, .int 0])), (e4, .inr (1, [.ref a40, .ref a41, .ref a42, .int 0])), (e5, .inr (1, [.ref a50, .ref a51, .ref a52, .int 0])), (e6, .inr (1, [.ref a60, .ref a61, .ref a62, .int 0])), (e7, .inr (1, [.ref a70, .ref a71, .ref a72, .int 0])), (h0, .inr (9, [.ref y0, .ref y1, .ref y2, .ref y3, .ref y4, .int 0, .ref y5, .int 2, .int 0, .ref y6, .int 0, .ref y7, .int 0, .ref y8, .int 0])), (y2, .inl (k2, 8, .inr (.inr (.inr (.inr g)))))] H := hP
        have hD : va_D A [(e0, .inr (1, [.ref a00, .ref a01, .ref a02, .int 0])), (e1, .inr (1, [.ref a10, .ref a11, .ref a12, .int 0])), (e2, .inr (1, [.ref a20, .ref a21, .ref a22, .int 0])), (e3, .inr (1, [.ref a30, .ref a31, .ref a32, .int 0])), (e4, .inr (1, [.ref a40, .ref a41, .ref a42, .int 0])), (e5, .inr (1, [.ref a50, .ref a51, .ref a52, .int 0])), (e6, .inr (1, [.ref a60, .ref a61, .ref a62, .int 0])), (e7, .inr (1, [.ref a70, .ref a71, .ref a72, .int 0])), (h0, .inr (9, [.ref y0, .ref y1, .ref y2, .ref y3, .ref y4, .int 0, .ref y5, .int 2, .int 0, .ref y6, .int 0, .ref y7, .int 0, .ref y8, .int 0])), (y2, .inl (k2, 8, .inr (.inr (.inr (.inr g)))))] := hD
        refine lv_iinc (v := 3) (lv' := [(1, .int 3), (2, .ref e2), (0, .ref h0)]) hx hb dX9_wipeErrands_23 hl (k := 1) rfl (by decide) (by decide) rfl (fun ls hl => ?_)
        refine lv_goto (tgt := 2) hx hb dX9_wipeErrands_26 (by decide) ?_
        refine lv_iload_n hx hb dX9_wipeErrands_2 rfl (lv_at hl 0 rfl) ?_
        refine lv_bipush (v := 8) hx hb dX9_wipeErrands_3 (by decide) ?_
        refine lv_icmp_ge (tgt := 29) hx hb dX9_wipeErrands_5 (by decide) (fun c_13 => absurd c_13 (by decide)) (fun _ => ?_)
        refine lv_aload_n hx hb dX9_wipeErrands_8 rfl (lv_at hl 2 rfl) ?_
        refine lv_iload_n hx hb dX9_wipeErrands_9 rfl (lv_at hl 0 rfl) ?_
        have hPc := hP.sub (ws' := [(h0, .inr (9, [.ref y0, .ref y1, .ref y2, .ref y3, .ref y4, .int 0, .ref y5, .int 2, .int 0, .ref y6, .int 0, .ref y7, .int 0, .ref y8, .int 0])), (y2, .inl (k2, 8, .inr (.inr (.inr (.inr g)))))]) [8, 9] rfl
        have hDc := hD.sub (ws' := [(h0, .inr (9, [.ref y0, .ref y1, .ref y2, .ref y3, .ref y4, .int 0, .ref y5, .int 2, .int 0, .ref y6, .int 0, .ref y7, .int 0, .ref y8, .int 0])), (y2, .inl (k2, 8, .inr (.inr (.inr (.inr g)))))]) [8, 9] (by decide) rfl
        have hKc := hK.sub (tys' := [(k2, .object RX1)]) [0] rfl
        have hFc := va_free (wc := [(h0, .inr (9, [.ref y0, .ref y1, .ref y2, .ref y3, .ref y4, .int 0, .ref y5, .int 2, .int 0, .ref y6, .int 0, .ref y7, .int 0, .ref y8, .int 0])), (y2, .inl (k2, 8, .inr (.inr (.inr (.inr g)))))]) hD hS hA [8, 9] rfl
        refine va_callq (va_runV (As := [.int 3]) (rest := []) ⟨hx, hb, hml, hown, hg⟩ (c_X9_errandAt l dC dI h0 y0 y1 y2 y3 y4 y5 y6 y7 y8 k2 g 3 H.size ) (cwV 1 hg (gw_V gm_methodLink_RX9_69_yX9_errandAt gm_instanceMethod_yX9_errandAt gm_selects_RX9_yX9_errandAt_yX9_errandAt gm_initialized_RX9 gm_code_yX9_errandAt_cX9_errandAt_2_some_object_ErrandGuild_Errand_) rfl rfl rfl (by decide +kernel) ⟨Nat.le_of_ble_eq_true rfl, Nat.le_of_ble_eq_true rfl⟩) ⟨fun a U g mk q => by obtain ⟨q0, q1, qP, qK, qD, qN⟩ := q; exact ⟨q0, q1, qP, va_K.moved (u := U) (U := U.calling g mk a) (Vm.Alike.refl U.vm) qK, qD, nx_same (u := U) (U := U.calling g mk a) rfl qN⟩, va_recv hKc hPc (ci := 9) (q0 := 0) rfl rfl, fun U hU hW => ⟨rfl, by rw [hU], by rw [hU]; exact hPc, va_K.moved hW.alike hKc, hDc.weaken (fun _ _ _ _ => trivial), nx_warm hW hN⟩⟩ rfl rfl hl.1 rfl (lv_room (Nat.le_of_ble_eq_true rfl)) dX9_wipeErrands_10 ⟨Nat.le_of_ble_eq_true rfl, Nat.le_of_ble_eq_true rfl⟩) hS (fun q _ h => hFc q h) hFc (fun r_14 u_15 t H1 locs ht hvm hw hB hz1 hk1 hS => ?_)
        obtain ⟨hP1, hD1⟩ := hB
        rw [ht] at hP1
        obtain ⟨hP, hD⟩ := va_join (wr := [(e0, .inr (1, [.ref a00, .ref a01, .ref a02, .int 0])), (e1, .inr (1, [.ref a10, .ref a11, .ref a12, .int 0])), (e2, .inr (1, [.ref a20, .ref a21, .ref a22, .int 0])), (e3, .inr (1, [.ref a30, .ref a31, .ref a32, .int 0])), (e4, .inr (1, [.ref a40, .ref a41, .ref a42, .int 0])), (e5, .inr (1, [.ref a50, .ref a51, .ref a52, .int 0])), (e6, .inr (1, [.ref a60, .ref a61, .ref a62, .int 0])), (e7, .inr (1, [.ref a70, .ref a71, .ref a72, .int 0]))]) (w1 := [(h0, .inr (9, [.ref y0, .ref y1, .ref y2, .ref y3, .ref y4, .int 0, .ref y5, .int 2, .int 0, .ref y6, .int 0, .ref y7, .int 0, .ref y8, .int 0])), (y2, .inl (k2, 8, .inr (.inr (.inr (.inr g)))))]) hP hD [8, 9] [0, 1, 2, 3, 4, 5, 6, 7] rfl rfl (by decide) (by decide +kernel) hk1 hFc hP1 hD1
        generalize H1 = H at hP hS ⊢
        have hP : va_P (dC, dI) vwCl [(e0, .inr (1, [.ref a00, .ref a01, .ref a02, .int 0])), (e1, .inr (1, [.ref a10, .ref a11, .ref a12, .int 0])), (e2, .inr (1, [.ref a20, .ref a21, .ref a22, .int 0])), (e3, .inr (1, [.ref a30, .ref a31, .ref a32, .int 0])), (e4, .inr (1, [.ref a40, .ref a41, .ref a42, .int 0])), (e5, .inr (1, [.ref a50, .ref a51, .ref a52, .int 0])), (e6, .inr (1, [.ref a60, .ref a61, .ref a62, .int 0])), (e7, .inr (1, [.ref a70, .ref a71, .ref a72, .int 0])), (h0, .inr (9, [.ref y0, .ref y1, .ref y2, .ref y3, .ref y4, .int 0, .ref y5, .int 2, .int 0, .ref y6, .int 0, .ref y7, .int 0, .ref y8, .int 0])), (y2, .inl (k2, 8, .inr (.inr (.inr (.inr g)))))] H := hP
        have hD : va_D A [(e0, .inr (1, [.ref a00, .ref a01, .ref a02, .int 0])), (e1, .inr (1, [.ref a10, .ref a11, .ref a12, .int 0])), (e2, .inr (1, [.ref a20, .ref a21, .ref a22, .int 0])), (e3, .inr (1, [.ref a30, .ref a31, .ref a32, .int 0])), (e4, .inr (1, [.ref a40, .ref a41, .ref a42, .int 0])), (e5, .inr (1, [.ref a50, .ref a51, .ref a52, .int 0])), (e6, .inr (1, [.ref a60, .ref a61, .ref a62, .int 0])), (e7, .inr (1, [.ref a70, .ref a71, .ref a72, .int 0])), (h0, .inr (9, [.ref y0, .ref y1, .ref y2, .ref y3, .ref y4, .int 0, .ref y5, .int 2, .int 0, .ref y6, .int 0, .ref y7, .int 0, .ref y8, .int 0])), (y2, .inl (k2, 8, .inr (.inr (.inr (.inr g)))))] := hD
        refine W.widen (k := 0) (n := 0) (Nat.le_of_ble_eq_true rfl) (Nat.le_of_ble_eq_true rfl) ?_
        rcases hw with ⟨rfl, w_16⟩ | ⟨rfl, w_16⟩
        · try simp only [ti_3] at w_16
          rw [show g (Int32.toNatClampNeg 3) = some e3 from hg3]
          refine W.eq (g2 := F0 m 13 ls [.ref e3]) rfl ?_
          refine lv_astore_n (lv' := [(2, .ref e3), (1, .int 3), (0, .ref h0)]) hx hb dX9_wipeErrands_13 rfl hl (by decide) rfl (fun ls hl => ?_)
          refine lv_aload_n hx hb dX9_wipeErrands_14 rfl (lv_at hl 0 rfl) ?_
          refine lv_ifnull hx hb dX9_wipeErrands_15 ?_
          refine lv_aload_n hx hb dX9_wipeErrands_18 rfl (lv_at hl 0 rfl) ?_
          refine lv_iconst (v := 0) hx hb dX9_wipeErrands_19 (by decide) ?_
          refine va_put (D := (dC, dI)) (ci := 1) (v := .int 0) (ty := .int) (C := RX1) (T := TX1) (N := 4) hx hb hg gb_1 tyX1 tyX1_ok nmX1 hown hK hP hD hS 3 rfl rfl 3 (by decide) (hg _ gm_fieldLink_RX9_73_ErrandGuild_Errand_count_I_) (fun _ h9 => h9) rfl (by decide +kernel) rfl rfl (Nat.le_of_ble_eq_true rfl) dX9_wipeErrands_20 (fun H locs hP hD hS => ?_)
          have hP : va_P (dC, dI) vwCl [(e0, .inr (1, [.ref a00, .ref a01, .ref a02, .int 0])), (e1, .inr (1, [.ref a10, .ref a11, .ref a12, .int 0])), (e2, .inr (1, [.ref a20, .ref a21, .ref a22, .int 0])), (e3, .inr (1, [.ref a30, .ref a31, .ref a32, .int 0])), (e4, .inr (1, [.ref a40, .ref a41, .ref a42, .int 0])), (e5, .inr (1, [.ref a50, .ref a51, .ref a52, .int 0])), (e6, .inr (1, [.ref a60, .ref a61, .ref a62, .int 0])), (e7, .inr (1, [.ref a70, .ref a71, .ref a72, .int 0])), (h0, .inr (9, [.ref y0, .ref y1, .ref y2, .ref y3, .ref y4, .int 0, .ref y5, .int 2, .int 0, .ref y6, .int 0, .ref y7, .int 0, .ref y8, .int 0])), (y2, .inl (k2, 8, .inr (.inr (.inr (.inr g)))))] H := hP
          have hD : va_D A [(e0, .inr (1, [.ref a00, .ref a01, .ref a02, .int 0])), (e1, .inr (1, [.ref a10, .ref a11, .ref a12, .int 0])), (e2, .inr (1, [.ref a20, .ref a21, .ref a22, .int 0])), (e3, .inr (1, [.ref a30, .ref a31, .ref a32, .int 0])), (e4, .inr (1, [.ref a40, .ref a41, .ref a42, .int 0])), (e5, .inr (1, [.ref a50, .ref a51, .ref a52, .int 0])), (e6, .inr (1, [.ref a60, .ref a61, .ref a62, .int 0])), (e7, .inr (1, [.ref a70, .ref a71, .ref a72, .int 0])), (h0, .inr (9, [.ref y0, .ref y1, .ref y2, .ref y3, .ref y4, .int 0, .ref y5, .int 2, .int 0, .ref y6, .int 0, .ref y7, .int 0, .ref y8, .int 0])), (y2, .inl (k2, 8, .inr (.inr (.inr (.inr g)))))] := hD
          refine lv_iinc (v := 4) (lv' := [(1, .int 4), (2, .ref e3), (0, .ref h0)]) hx hb dX9_wipeErrands_23 hl (k := 1) rfl (by decide) (by decide) rfl (fun ls hl => ?_)
          refine lv_goto (tgt := 2) hx hb dX9_wipeErrands_26 (by decide) ?_
          refine lv_iload_n hx hb dX9_wipeErrands_2 rfl (lv_at hl 0 rfl) ?_
          refine lv_bipush (v := 8) hx hb dX9_wipeErrands_3 (by decide) ?_
          refine lv_icmp_ge (tgt := 29) hx hb dX9_wipeErrands_5 (by decide) (fun c_17 => absurd c_17 (by decide)) (fun _ => ?_)
          refine lv_aload_n hx hb dX9_wipeErrands_8 rfl (lv_at hl 2 rfl) ?_
          refine lv_iload_n hx hb dX9_wipeErrands_9 rfl (lv_at hl 0 rfl) ?_
          have hPc := hP.sub (ws' := [(h0, .inr (9, [.ref y0, .ref y1, .ref y2, .ref y3, .ref y4, .int 0, .ref y5, .int 2, .int 0, .ref y6, .int 0, .ref y7, .int 0, .ref y8, .int 0])), (y2, .inl (k2, 8, .inr (.inr (.inr (.inr g)))))]) [8, 9] rfl
          have hDc := hD.sub (ws' := [(h0, .inr (9, [.ref y0, .ref y1, .ref y2, .ref y3, .ref y4, .int 0, .ref y5, .int 2, .int 0, .ref y6, .int 0, .ref y7, .int 0, .ref y8, .int 0])), (y2, .inl (k2, 8, .inr (.inr (.inr (.inr g)))))]) [8, 9] (by decide) rfl
          have hKc := hK.sub (tys' := [(k2, .object RX1)]) [0] rfl
          have hFc := va_free (wc := [(h0, .inr (9, [.ref y0, .ref y1, .ref y2, .ref y3, .ref y4, .int 0, .ref y5, .int 2, .int 0, .ref y6, .int 0, .ref y7, .int 0, .ref y8, .int 0])), (y2, .inl (k2, 8, .inr (.inr (.inr (.inr g)))))]) hD hS hA [8, 9] rfl
          refine va_callq (va_runV (As := [.int 4]) (rest := []) ⟨hx, hb, hml, hown, hg⟩ (c_X9_errandAt l dC dI h0 y0 y1 y2 y3 y4 y5 y6 y7 y8 k2 g 4 H.size ) (cwV 1 hg (gw_V gm_methodLink_RX9_69_yX9_errandAt gm_instanceMethod_yX9_errandAt gm_selects_RX9_yX9_errandAt_yX9_errandAt gm_initialized_RX9 gm_code_yX9_errandAt_cX9_errandAt_2_some_object_ErrandGuild_Errand_) rfl rfl rfl (by decide +kernel) ⟨Nat.le_of_ble_eq_true rfl, Nat.le_of_ble_eq_true rfl⟩) ⟨fun a U g mk q => by obtain ⟨q0, q1, qP, qK, qD, qN⟩ := q; exact ⟨q0, q1, qP, va_K.moved (u := U) (U := U.calling g mk a) (Vm.Alike.refl U.vm) qK, qD, nx_same (u := U) (U := U.calling g mk a) rfl qN⟩, va_recv hKc hPc (ci := 9) (q0 := 0) rfl rfl, fun U hU hW => ⟨rfl, by rw [hU], by rw [hU]; exact hPc, va_K.moved hW.alike hKc, hDc.weaken (fun _ _ _ _ => trivial), nx_warm hW hN⟩⟩ rfl rfl hl.1 rfl (lv_room (Nat.le_of_ble_eq_true rfl)) dX9_wipeErrands_10 ⟨Nat.le_of_ble_eq_true rfl, Nat.le_of_ble_eq_true rfl⟩) hS (fun q _ h => hFc q h) hFc (fun r_18 u_19 t H1 locs ht hvm hw hB hz1 hk1 hS => ?_)
          obtain ⟨hP1, hD1⟩ := hB
          rw [ht] at hP1
          obtain ⟨hP, hD⟩ := va_join (wr := [(e0, .inr (1, [.ref a00, .ref a01, .ref a02, .int 0])), (e1, .inr (1, [.ref a10, .ref a11, .ref a12, .int 0])), (e2, .inr (1, [.ref a20, .ref a21, .ref a22, .int 0])), (e3, .inr (1, [.ref a30, .ref a31, .ref a32, .int 0])), (e4, .inr (1, [.ref a40, .ref a41, .ref a42, .int 0])), (e5, .inr (1, [.ref a50, .ref a51, .ref a52, .int 0])), (e6, .inr (1, [.ref a60, .ref a61, .ref a62, .int 0])), (e7, .inr (1, [.ref a70, .ref a71, .ref a72, .int 0]))]) (w1 := [(h0, .inr (9, [.ref y0, .ref y1, .ref y2, .ref y3, .ref y4, .int 0, .ref y5, .int 2, .int 0, .ref y6, .int 0, .ref y7, .int 0, .ref y8, .int 0])), (y2, .inl (k2, 8, .inr (.inr (.inr (.inr g)))))]) hP hD [8, 9] [0, 1, 2, 3, 4, 5, 6, 7] rfl rfl (by decide) (by decide +kernel) hk1 hFc hP1 hD1
          generalize H1 = H at hP hS ⊢
          have hP : va_P (dC, dI) vwCl [(e0, .inr (1, [.ref a00, .ref a01, .ref a02, .int 0])), (e1, .inr (1, [.ref a10, .ref a11, .ref a12, .int 0])), (e2, .inr (1, [.ref a20, .ref a21, .ref a22, .int 0])), (e3, .inr (1, [.ref a30, .ref a31, .ref a32, .int 0])), (e4, .inr (1, [.ref a40, .ref a41, .ref a42, .int 0])), (e5, .inr (1, [.ref a50, .ref a51, .ref a52, .int 0])), (e6, .inr (1, [.ref a60, .ref a61, .ref a62, .int 0])), (e7, .inr (1, [.ref a70, .ref a71, .ref a72, .int 0])), (h0, .inr (9, [.ref y0, .ref y1, .ref y2, .ref y3, .ref y4, .int 0, .ref y5, .int 2, .int 0, .ref y6, .int 0, .ref y7, .int 0, .ref y8, .int 0])), (y2, .inl (k2, 8, .inr (.inr (.inr (.inr g)))))] H := hP
          have hD : va_D A [(e0, .inr (1, [.ref a00, .ref a01, .ref a02, .int 0])), (e1, .inr (1, [.ref a10, .ref a11, .ref a12, .int 0])), (e2, .inr (1, [.ref a20, .ref a21, .ref a22, .int 0])), (e3, .inr (1, [.ref a30, .ref a31, .ref a32, .int 0])), (e4, .inr (1, [.ref a40, .ref a41, .ref a42, .int 0])), (e5, .inr (1, [.ref a50, .ref a51, .ref a52, .int 0])), (e6, .inr (1, [.ref a60, .ref a61, .ref a62, .int 0])), (e7, .inr (1, [.ref a70, .ref a71, .ref a72, .int 0])), (h0, .inr (9, [.ref y0, .ref y1, .ref y2, .ref y3, .ref y4, .int 0, .ref y5, .int 2, .int 0, .ref y6, .int 0, .ref y7, .int 0, .ref y8, .int 0])), (y2, .inl (k2, 8, .inr (.inr (.inr (.inr g)))))] := hD
          refine W.widen (k := 0) (n := 0) (Nat.le_of_ble_eq_true rfl) (Nat.le_of_ble_eq_true rfl) ?_
          rcases hw with ⟨rfl, w_20⟩ | ⟨rfl, w_20⟩
          · try simp only [ti_4] at w_20
            rw [show g (Int32.toNatClampNeg 4) = some e4 from hg4]
            refine W.eq (g2 := F0 m 13 ls [.ref e4]) rfl ?_
            refine lv_astore_n (lv' := [(2, .ref e4), (1, .int 4), (0, .ref h0)]) hx hb dX9_wipeErrands_13 rfl hl (by decide) rfl (fun ls hl => ?_)
            refine lv_aload_n hx hb dX9_wipeErrands_14 rfl (lv_at hl 0 rfl) ?_
            refine lv_ifnull hx hb dX9_wipeErrands_15 ?_
            refine lv_aload_n hx hb dX9_wipeErrands_18 rfl (lv_at hl 0 rfl) ?_
            refine lv_iconst (v := 0) hx hb dX9_wipeErrands_19 (by decide) ?_
            refine va_put (D := (dC, dI)) (ci := 1) (v := .int 0) (ty := .int) (C := RX1) (T := TX1) (N := 4) hx hb hg gb_1 tyX1 tyX1_ok nmX1 hown hK hP hD hS 4 rfl rfl 3 (by decide) (hg _ gm_fieldLink_RX9_73_ErrandGuild_Errand_count_I_) (fun _ h9 => h9) rfl (by decide +kernel) rfl rfl (Nat.le_of_ble_eq_true rfl) dX9_wipeErrands_20 (fun H locs hP hD hS => ?_)
            have hP : va_P (dC, dI) vwCl [(e0, .inr (1, [.ref a00, .ref a01, .ref a02, .int 0])), (e1, .inr (1, [.ref a10, .ref a11, .ref a12, .int 0])), (e2, .inr (1, [.ref a20, .ref a21, .ref a22, .int 0])), (e3, .inr (1, [.ref a30, .ref a31, .ref a32, .int 0])), (e4, .inr (1, [.ref a40, .ref a41, .ref a42, .int 0])), (e5, .inr (1, [.ref a50, .ref a51, .ref a52, .int 0])), (e6, .inr (1, [.ref a60, .ref a61, .ref a62, .int 0])), (e7, .inr (1, [.ref a70, .ref a71, .ref a72, .int 0])), (h0, .inr (9, [.ref y0, .ref y1, .ref y2, .ref y3, .ref y4, .int 0, .ref y5, .int 2, .int 0, .ref y6, .int 0, .ref y7, .int 0, .ref y8, .int 0])), (y2, .inl (k2, 8, .inr (.inr (.inr (.inr g)))))] H := hP
            have hD : va_D A [(e0, .inr (1, [.ref a00, .ref a01, .ref a02, .int 0])), (e1, .inr (1, [.ref a10, .ref a11, .ref a12, .int 0])), (e2, .inr (1, [.ref a20, .ref a21, .ref a22, .int 0])), (e3, .inr (1, [.ref a30, .ref a31, .ref a32, .int 0])), (e4, .inr (1, [.ref a40, .ref a41, .ref a42, .int 0])), (e5, .inr (1, [.ref a50, .ref a51, .ref a52, .int 0])), (e6, .inr (1, [.ref a60, .ref a61, .ref a62, .int 0])), (e7, .inr (1, [.ref a70, .ref a71, .ref a72, .int 0])), (h0, .inr (9, [.ref y0, .ref y1, .ref y2, .ref y3, .ref y4, .int 0, .ref y5, .int 2, .int 0, .ref y6, .int 0, .ref y7, .int 0, .ref y8, .int 0])), (y2, .inl (k2, 8, .inr (.inr (.inr (.inr g)))))] := hD
            refine lv_iinc (v := 5) (lv' := [(1, .int 5), (2, .ref e4), (0, .ref h0)]) hx hb dX9_wipeErrands_23 hl (k := 1) rfl (by decide) (by decide) rfl (fun ls hl => ?_)
            refine lv_goto (tgt := 2) hx hb dX9_wipeErrands_26 (by decide) ?_
            refine lv_iload_n hx hb dX9_wipeErrands_2 rfl (lv_at hl 0 rfl) ?_
            refine lv_bipush (v := 8) hx hb dX9_wipeErrands_3 (by decide) ?_
            refine lv_icmp_ge (tgt := 29) hx hb dX9_wipeErrands_5 (by decide) (fun c_21 => absurd c_21 (by decide)) (fun _ => ?_)
            refine lv_aload_n hx hb dX9_wipeErrands_8 rfl (lv_at hl 2 rfl) ?_
            refine lv_iload_n hx hb dX9_wipeErrands_9 rfl (lv_at hl 0 rfl) ?_
            have hPc := hP.sub (ws' := [(h0, .inr (9, [.ref y0, .ref y1, .ref y2, .ref y3, .ref y4, .int 0, .ref y5, .int 2, .int 0, .ref y6, .int 0, .ref y7, .int 0, .ref y8, .int 0])), (y2, .inl (k2, 8, .inr (.inr (.inr (.inr g)))))]) [8, 9] rfl
            have hDc := hD.sub (ws' := [(h0, .inr (9, [.ref y0, .ref y1, .ref y2, .ref y3, .ref y4, .int 0, .ref y5, .int 2, .int 0, .ref y6, .int 0, .ref y7, .int 0, .ref y8, .int 0])), (y2, .inl (k2, 8, .inr (.inr (.inr (.inr g)))))]) [8, 9] (by decide) rfl
            have hKc := hK.sub (tys' := [(k2, .object RX1)]) [0] rfl
            have hFc := va_free (wc := [(h0, .inr (9, [.ref y0, .ref y1, .ref y2, .ref y3, .ref y4, .int 0, .ref y5, .int 2, .int 0, .ref y6, .int 0, .ref y7, .int 0, .ref y8, .int 0])), (y2, .inl (k2, 8, .inr (.inr (.inr (.inr g)))))]) hD hS hA [8, 9] rfl
            refine va_callq (va_runV (As := [.int 5]) (rest := []) ⟨hx, hb, hml, hown, hg⟩ (c_X9_errandAt l dC dI h0 y0 y1 y2 y3 y4 y5 y6 y7 y8 k2 g 5 H.size ) (cwV 1 hg (gw_V gm_methodLink_RX9_69_yX9_errandAt gm_instanceMethod_yX9_errandAt gm_selects_RX9_yX9_errandAt_yX9_errandAt gm_initialized_RX9 gm_code_yX9_errandAt_cX9_errandAt_2_some_object_ErrandGuild_Errand_) rfl rfl rfl (by decide +kernel) ⟨Nat.le_of_ble_eq_true rfl, Nat.le_of_ble_eq_true rfl⟩) ⟨fun a U g mk q => by obtain ⟨q0, q1, qP, qK, qD, qN⟩ := q; exact ⟨q0, q1, qP, va_K.moved (u := U) (U := U.calling g mk a) (Vm.Alike.refl U.vm) qK, qD, nx_same (u := U) (U := U.calling g mk a) rfl qN⟩, va_recv hKc hPc (ci := 9) (q0 := 0) rfl rfl, fun U hU hW => ⟨rfl, by rw [hU], by rw [hU]; exact hPc, va_K.moved hW.alike hKc, hDc.weaken (fun _ _ _ _ => trivial), nx_warm hW hN⟩⟩ rfl rfl hl.1 rfl (lv_room (Nat.le_of_ble_eq_true rfl)) dX9_wipeErrands_10 ⟨Nat.le_of_ble_eq_true rfl, Nat.le_of_ble_eq_true rfl⟩) hS (fun q _ h => hFc q h) hFc (fun r_22 u_23 t H1 locs ht hvm hw hB hz1 hk1 hS => ?_)
            obtain ⟨hP1, hD1⟩ := hB
            rw [ht] at hP1
            obtain ⟨hP, hD⟩ := va_join (wr := [(e0, .inr (1, [.ref a00, .ref a01, .ref a02, .int 0])), (e1, .inr (1, [.ref a10, .ref a11, .ref a12, .int 0])), (e2, .inr (1, [.ref a20, .ref a21, .ref a22, .int 0])), (e3, .inr (1, [.ref a30, .ref a31, .ref a32, .int 0])), (e4, .inr (1, [.ref a40, .ref a41, .ref a42, .int 0])), (e5, .inr (1, [.ref a50, .ref a51, .ref a52, .int 0])), (e6, .inr (1, [.ref a60, .ref a61, .ref a62, .int 0])), (e7, .inr (1, [.ref a70, .ref a71, .ref a72, .int 0]))]) (w1 := [(h0, .inr (9, [.ref y0, .ref y1, .ref y2, .ref y3, .ref y4, .int 0, .ref y5, .int 2, .int 0, .ref y6, .int 0, .ref y7, .int 0, .ref y8, .int 0])), (y2, .inl (k2, 8, .inr (.inr (.inr (.inr g)))))]) hP hD [8, 9] [0, 1, 2, 3, 4, 5, 6, 7] rfl rfl (by decide) (by decide +kernel) hk1 hFc hP1 hD1
            generalize H1 = H at hP hS ⊢
            have hP : va_P (dC, dI) vwCl [(e0, .inr (1, [.ref a00, .ref a01, .ref a02, .int 0])), (e1, .inr (1, [.ref a10, .ref a11, .ref a12, .int 0])), (e2, .inr (1, [.ref a20, .ref a21, .ref a22, .int 0])), (e3, .inr (1, [.ref a30, .ref a31, .ref a32, .int 0])), (e4, .inr (1, [.ref a40, .ref a41, .ref a42, .int 0])), (e5, .inr (1, [.ref a50, .ref a51, .ref a52, .int 0])), (e6, .inr (1, [.ref a60, .ref a61, .ref a62, .int 0])), (e7, .inr (1, [.ref a70, .ref a71, .ref a72, .int 0])), (h0, .inr (9, [.ref y0, .ref y1, .ref y2, .ref y3, .ref y4, .int 0, .ref y5, .int 2, .int 0, .ref y6, .int 0, .ref y7, .int 0, .ref y8, .int 0])), (y2, .inl (k2, 8, .inr (.inr (.inr (.inr g)))))] H := hP
            have hD : va_D A [(e0, .inr (1, [.ref a00, .ref a01, .ref a02, .int 0])), (e1, .inr (1, [.ref a10, .ref a11, .ref a12, .int 0])), (e2, .inr (1, [.ref a20, .ref a21, .ref a22, .int 0])), (e3, .inr (1, [.ref a30, .ref a31, .ref a32, .int 0])), (e4, .inr (1, [.ref a40, .ref a41, .ref a42, .int 0])), (e5, .inr (1, [.ref a50, .ref a51, .ref a52, .int 0])), (e6, .inr (1, [.ref a60, .ref a61, .ref a62, .int 0])), (e7, .inr (1, [.ref a70, .ref a71, .ref a72, .int 0])), (h0, .inr (9, [.ref y0, .ref y1, .ref y2, .ref y3, .ref y4, .int 0, .ref y5, .int 2, .int 0, .ref y6, .int 0, .ref y7, .int 0, .ref y8, .int 0])), (y2, .inl (k2, 8, .inr (.inr (.inr (.inr g)))))] := hD
            refine W.widen (k := 0) (n := 0) (Nat.le_of_ble_eq_true rfl) (Nat.le_of_ble_eq_true rfl) ?_
            rcases hw with ⟨rfl, w_24⟩ | ⟨rfl, w_24⟩
            · try simp only [ti_5] at w_24
              rw [show g (Int32.toNatClampNeg 5) = some e5 from hg5]
              refine W.eq (g2 := F0 m 13 ls [.ref e5]) rfl ?_
              refine lv_astore_n (lv' := [(2, .ref e5), (1, .int 5), (0, .ref h0)]) hx hb dX9_wipeErrands_13 rfl hl (by decide) rfl (fun ls hl => ?_)
              refine lv_aload_n hx hb dX9_wipeErrands_14 rfl (lv_at hl 0 rfl) ?_
              refine lv_ifnull hx hb dX9_wipeErrands_15 ?_
              refine lv_aload_n hx hb dX9_wipeErrands_18 rfl (lv_at hl 0 rfl) ?_
              refine lv_iconst (v := 0) hx hb dX9_wipeErrands_19 (by decide) ?_
              refine va_put (D := (dC, dI)) (ci := 1) (v := .int 0) (ty := .int) (C := RX1) (T := TX1) (N := 4) hx hb hg gb_1 tyX1 tyX1_ok nmX1 hown hK hP hD hS 5 rfl rfl 3 (by decide) (hg _ gm_fieldLink_RX9_73_ErrandGuild_Errand_count_I_) (fun _ h9 => h9) rfl (by decide +kernel) rfl rfl (Nat.le_of_ble_eq_true rfl) dX9_wipeErrands_20 (fun H locs hP hD hS => ?_)
              have hP : va_P (dC, dI) vwCl [(e0, .inr (1, [.ref a00, .ref a01, .ref a02, .int 0])), (e1, .inr (1, [.ref a10, .ref a11, .ref a12, .int 0])), (e2, .inr (1, [.ref a20, .ref a21, .ref a22, .int 0])), (e3, .inr (1, [.ref a30, .ref a31, .ref a32, .int 0])), (e4, .inr (1, [.ref a40, .ref a41, .ref a42, .int 0])), (e5, .inr (1, [.ref a50, .ref a51, .ref a52, .int 0])), (e6, .inr (1, [.ref a60, .ref a61, .ref a62, .int 0])), (e7, .inr (1, [.ref a70, .ref a71, .ref a72, .int 0])), (h0, .inr (9, [.ref y0, .ref y1, .ref y2, .ref y3, .ref y4, .int 0, .ref y5, .int 2, .int 0, .ref y6, .int 0, .ref y7, .int 0, .ref y8, .int 0])), (y2, .inl (k2, 8, .inr (.inr (.inr (.inr g)))))] H := hP
              have hD : va_D A [(e0, .inr (1, [.ref a00, .ref a01, .ref a02, .int 0])), (e1, .inr (1, [.ref a10, .ref a11, .ref a12, .int 0])), (e2, .inr (1, [.ref a20, .ref a21, .ref a22, .int 0])), (e3, .inr (1, [.ref a30, .ref a31, .ref a32, .int 0])), (e4, .inr (1, [.ref a40, .ref a41, .ref a42, .int 0])), (e5, .inr (1, [.ref a50, .ref a51, .ref a52, .int 0])), (e6, .inr (1, [.ref a60, .ref a61, .ref a62, .int 0])), (e7, .inr (1, [.ref a70, .ref a71, .ref a72, .int 0])), (h0, .inr (9, [.ref y0, .ref y1, .ref y2, .ref y3, .ref y4, .int 0, .ref y5, .int 2, .int 0, .ref y6, .int 0, .ref y7, .int 0, .ref y8, .int 0])), (y2, .inl (k2, 8, .inr (.inr (.inr (.inr g)))))] := hD
              refine lv_iinc (v := 6) (lv' := [(1, .int 6), (2, .ref e5), (0, .ref h0)]) hx hb dX9_wipeErrands_23 hl (k := 1) rfl (by decide) (by decide) rfl (fun ls hl => ?_)
              refine lv_goto (tgt := 2) hx hb dX9_wipeErrands_26 (by decide) ?_
              refine lv_iload_n hx hb dX9_wipeErrands_2 rfl (lv_at hl 0 rfl) ?_
              refine lv_bipush (v := 8) hx hb dX9_wipeErrands_3 (by decide) ?_
              refine lv_icmp_ge (tgt := 29) hx hb dX9_wipeErrands_5 (by decide) (fun c_25 => absurd c_25 (by decide)) (fun _ => ?_)
              refine lv_aload_n hx hb dX9_wipeErrands_8 rfl (lv_at hl 2 rfl) ?_
              refine lv_iload_n hx hb dX9_wipeErrands_9 rfl (lv_at hl 0 rfl) ?_
              have hPc := hP.sub (ws' := [(h0, .inr (9, [.ref y0, .ref y1, .ref y2, .ref y3, .ref y4, .int 0, .ref y5, .int 2, .int 0, .ref y6, .int 0, .ref y7, .int 0, .ref y8, .int 0])), (y2, .inl (k2, 8, .inr (.inr (.inr (.inr g)))))]) [8, 9] rfl
              have hDc := hD.sub (ws' := [(h0, .inr (9, [.ref y0, .ref y1, .ref y2, .ref y3, .ref y4, .int 0, .ref y5, .int 2, .int 0, .ref y6, .int 0, .ref y7, .int 0, .ref y8, .int 0])), (y2, .inl (k2, 8, .inr (.inr (.inr (.inr g)))))]) [8, 9] (by decide) rfl
              have hKc := hK.sub (tys' := [(k2, .object RX1)]) [0] rfl
              have hFc := va_free (wc := [(h0, .inr (9, [.ref y0, .ref y1, .ref y2, .ref y3, .ref y4, .int 0, .ref y5, .int 2, .int 0, .ref y6, .int 0, .ref y7, .int 0, .ref y8, .int 0])), (y2, .inl (k2, 8, .inr (.inr (.inr (.inr g)))))]) hD hS hA [8, 9] rfl
              refine va_callq (va_runV (As := [.int 6]) (rest := []) ⟨hx, hb, hml, hown, hg⟩ (c_X9_errandAt l dC dI h0 y0 y1 y2 y3 y4 y5 y6 y7 y8 k2 g 6 H.size ) (cwV 1 hg (gw_V gm_methodLink_RX9_69_yX9_errandAt gm_instanceMethod_yX9_errandAt gm_selects_RX9_yX9_errandAt_yX9_errandAt gm_initialized_RX9 gm_code_yX9_errandAt_cX9_errandAt_2_some_object_ErrandGuild_Errand_) rfl rfl rfl (by decide +kernel) ⟨Nat.le_of_ble_eq_true rfl, Nat.le_of_ble_eq_true rfl⟩) ⟨fun a U g mk q => by obtain ⟨q0, q1, qP, qK, qD, qN⟩ := q; exact ⟨q0, q1, qP, va_K.moved (u := U) (U := U.calling g mk a) (Vm.Alike.refl U.vm) qK, qD, nx_same (u := U) (U := U.calling g mk a) rfl qN⟩, va_recv hKc hPc (ci := 9) (q0 := 0) rfl rfl, fun U hU hW => ⟨rfl, by rw [hU], by rw [hU]; exact hPc, va_K.moved hW.alike hKc, hDc.weaken (fun _ _ _ _ => trivial), nx_warm hW hN⟩⟩ rfl rfl hl.1 rfl (lv_room (Nat.le_of_ble_eq_true rfl)) dX9_wipeErrands_10 ⟨Nat.le_of_ble_eq_true rfl, Nat.le_of_ble_eq_true rfl⟩) hS (fun q _ h => hFc q h) hFc (fun r_26 u_27 t H1 locs ht hvm hw hB hz1 hk1 hS => ?_)
              obtain ⟨hP1, hD1⟩ := hB
              rw [ht] at hP1
              obtain ⟨hP, hD⟩ := va_join (wr := [(e0, .inr (1, [.ref a00, .ref a01, .ref a02, .int 0])), (e1, .inr (1, [.ref a10, .ref a11, .ref a12, .int 0])), (e2, .inr (1, [.ref a20, .ref a21, .ref a22, .int 0])), (e3, .inr (1, [.ref a30, .ref a31, .ref a32, .int 0])), (e4, .inr (1, [.ref a40, .ref a41, .ref a42, .int 0])), (e5, .inr (1, [.ref a50, .ref a51, .ref a52, .int 0])), (e6, .inr (1, [.ref a60, .ref a61, .ref a62, .int 0])), (e7, .inr (1, [.ref a70, .ref a71, .ref a72, .int 0]))]) (w1 := [(h0, .inr (9, [.ref y0, .ref y1, .ref y2, .ref y3, .ref y4, .int 0, .ref y5, .int 2, .int 0, .ref y6, .int 0, .ref y7, .int 0, .ref y8, .int 0])), (y2, .inl (k2, 8, .inr (.inr (.inr (.inr g)))))]) hP hD [8, 9] [0, 1, 2, 3, 4, 5, 6, 7] rfl rfl (by decide) (by decide +kernel) hk1 hFc hP1 hD1
              generalize H1 = H at hP hS ⊢
              have hP : va_P (dC, dI) vwCl [(e0, .inr (1, [.ref a00, .ref a01, .ref a02, .int 0])), (e1, .inr (1, [.ref a10, .ref a11, .ref a12, .int 0])), (e2, .inr (1, [.ref a20, .ref a21, .ref a22, .int 0])), (e3, .inr (1, [.ref a30, .ref a31, .ref a32, .int 0])), (e4, .inr (1, [.ref a40, .ref a41, .ref a42, .int 0])), (e5, .inr (1, [.ref a50, .ref a51, .ref a52, .int 0])), (e6, .inr (1, [.ref a60, .ref a61, .ref a62, .int 0])), (e7, .inr (1, [.ref a70, .ref a71, .ref a72, .int 0])), (h0, .inr (9, [.ref y0, .ref y1, .ref y2, .ref y3, .ref y4, .int 0, .ref y5, .int 2, .int 0, .ref y6, .int 0, .ref y7, .int 0, .ref y8, .int 0])), (y2, .inl (k2, 8, .inr (.inr (.inr (.inr g)))))] H := hP
              have hD : va_D A [(e0, .inr (1, [.ref a00, .ref a01, .ref a02, .int 0])), (e1, .inr (1, [.ref a10, .ref a11, .ref a12, .int 0])), (e2, .inr (1, [.ref a20, .ref a21, .ref a22, .int 0])), (e3, .inr (1, [.ref a30, .ref a31, .ref a32, .int 0])), (e4, .inr (1, [.ref a40, .ref a41, .ref a42, .int 0])), (e5, .inr (1, [.ref a50, .ref a51, .ref a52, .int 0])), (e6, .inr (1, [.ref a60, .ref a61, .ref a62, .int 0])), (e7, .inr (1, [.ref a70, .ref a71, .ref a72, .int 0])), (h0, .inr (9, [.ref y0, .ref y1, .ref y2, .ref y3, .ref y4, .int 0, .ref y5, .int 2, .int 0, .ref y6, .int 0, .ref y7, .int 0, .ref y8, .int 0])), (y2, .inl (k2, 8, .inr (.inr (.inr (.inr g)))))] := hD
              refine W.widen (k := 0) (n := 0) (Nat.le_of_ble_eq_true rfl) (Nat.le_of_ble_eq_true rfl) ?_
              rcases hw with ⟨rfl, w_28⟩ | ⟨rfl, w_28⟩
              · try simp only [ti_6] at w_28
                rw [show g (Int32.toNatClampNeg 6) = some e6 from hg6]
                refine W.eq (g2 := F0 m 13 ls [.ref e6]) rfl ?_
                refine lv_astore_n (lv' := [(2, .ref e6), (1, .int 6), (0, .ref h0)]) hx hb dX9_wipeErrands_13 rfl hl (by decide) rfl (fun ls hl => ?_)
                refine lv_aload_n hx hb dX9_wipeErrands_14 rfl (lv_at hl 0 rfl) ?_
                refine lv_ifnull hx hb dX9_wipeErrands_15 ?_
                refine lv_aload_n hx hb dX9_wipeErrands_18 rfl (lv_at hl 0 rfl) ?_
                refine lv_iconst (v := 0) hx hb dX9_wipeErrands_19 (by decide) ?_
                refine va_put (D := (dC, dI)) (ci := 1) (v := .int 0) (ty := .int) (C := RX1) (T := TX1) (N := 4) hx hb hg gb_1 tyX1 tyX1_ok nmX1 hown hK hP hD hS 6 rfl rfl 3 (by decide) (hg _ gm_fieldLink_RX9_73_ErrandGuild_Errand_count_I_) (fun _ h9 => h9) rfl (by decide +kernel) rfl rfl (Nat.le_of_ble_eq_true rfl) dX9_wipeErrands_20 (fun H locs hP hD hS => ?_)
                have hP : va_P (dC, dI) vwCl [(e0, .inr (1, [.ref a00, .ref a01, .ref a02, .int 0])), (e1, .inr (1, [.ref a10, .ref a11, .ref a12, .int 0])), (e2, .inr (1, [.ref a20, .ref a21, .ref a22, .int 0])), (e3, .inr (1, [.ref a30, .ref a31, .ref a32, .int 0])), (e4, .inr (1, [.ref a40, .ref a41, .ref a42, .int 0])), (e5, .inr (1, [.ref a50, .ref a51, .ref a52, .int 0])), (e6, .inr (1, [.ref a60, .ref a61, .ref a62, .int 0])), (e7, .inr (1, [.ref a70, .ref a71, .ref a72, .int 0])), (h0, .inr (9, [.ref y0, .ref y1, .ref y2, .ref y3, .ref y4, .int 0, .ref y5, .int 2, .int 0, .ref y6, .int 0, .ref y7, .int 0, .ref y8, .int 0])), (y2, .inl (k2, 8, .inr (.inr (.inr (.inr g)))))] H := hP
                have hD : va_D A [(e0, .inr (1, [.ref a00, .ref a01, .ref a02, .int 0])), (e1, .inr (1, [.ref a10, .ref a11, .ref a12, .int 0])), (e2, .inr (1, [.ref a20, .ref a21, .ref a22, .int 0])), (e3, .inr (1, [.ref a30, .ref a31, .ref a32, .int 0])), (e4, .inr (1, [.ref a40, .ref a41, .ref a42, .int 0])), (e5, .inr (1, [.ref a50, .ref a51, .ref a52, .int 0])), (e6, .inr (1, [.ref a60, .ref a61, .ref a62, .int 0])), (e7, .inr (1, [.ref a70, .ref a71, .ref a72, .int 0])), (h0, .inr (9, [.ref y0, .ref y1, .ref y2, .ref y3, .ref y4, .int 0, .ref y5, .int 2, .int 0, .ref y6, .int 0, .ref y7, .int 0, .ref y8, .int 0])), (y2, .inl (k2, 8, .inr (.inr (.inr (.inr g)))))] := hD
                refine lv_iinc (v := 7) (lv' := [(1, .int 7), (2, .ref e6), (0, .ref h0)]) hx hb dX9_wipeErrands_23 hl (k := 1) rfl (by decide) (by decide) rfl (fun ls hl => ?_)
                refine lv_goto (tgt := 2) hx hb dX9_wipeErrands_26 (by decide) ?_
                refine lv_iload_n hx hb dX9_wipeErrands_2 rfl (lv_at hl 0 rfl) ?_
                refine lv_bipush (v := 8) hx hb dX9_wipeErrands_3 (by decide) ?_
                refine lv_icmp_ge (tgt := 29) hx hb dX9_wipeErrands_5 (by decide) (fun c_29 => absurd c_29 (by decide)) (fun _ => ?_)
                refine lv_aload_n hx hb dX9_wipeErrands_8 rfl (lv_at hl 2 rfl) ?_
                refine lv_iload_n hx hb dX9_wipeErrands_9 rfl (lv_at hl 0 rfl) ?_
                have hPc := hP.sub (ws' := [(h0, .inr (9, [.ref y0, .ref y1, .ref y2, .ref y3, .ref y4, .int 0, .ref y5, .int 2, .int 0, .ref y6, .int 0, .ref y7, .int 0, .ref y8, .int 0])), (y2, .inl (k2, 8, .inr (.inr (.inr (.inr g)))))]) [8, 9] rfl
                have hDc := hD.sub (ws' := [(h0, .inr (9, [.ref y0, .ref y1, .ref y2, .ref y3, .ref y4, .int 0, .ref y5, .int 2, .int 0, .ref y6, .int 0, .ref y7, .int 0, .ref y8, .int 0])), (y2, .inl (k2, 8, .inr (.inr (.inr (.inr g)))))]) [8, 9] (by decide) rfl
                have hKc := hK.sub (tys' := [(k2, .object RX1)]) [0] rfl
                have hFc := va_free (wc := [(h0, .inr (9, [.ref y0, .ref y1, .ref y2, .ref y3, .ref y4, .int 0, .ref y5, .int 2, .int 0, .ref y6, .int 0, .ref y7, .int 0, .ref y8, .int 0])), (y2, .inl (k2, 8, .inr (.inr (.inr (.inr g)))))]) hD hS hA [8, 9] rfl
                refine va_callq (va_runV (As := [.int 7]) (rest := []) ⟨hx, hb, hml, hown, hg⟩ (c_X9_errandAt l dC dI h0 y0 y1 y2 y3 y4 y5 y6 y7 y8 k2 g 7 H.size ) (cwV 1 hg (gw_V gm_methodLink_RX9_69_yX9_errandAt gm_instanceMethod_yX9_errandAt gm_selects_RX9_yX9_errandAt_yX9_errandAt gm_initialized_RX9 gm_code_yX9_errandAt_cX9_errandAt_2_some_object_ErrandGuild_Errand_) rfl rfl rfl (by decide +kernel) ⟨Nat.le_of_ble_eq_true rfl, Nat.le_of_ble_eq_true rfl⟩) ⟨fun a U g mk q => by obtain ⟨q0, q1, qP, qK, qD, qN⟩ := q; exact ⟨q0, q1, qP, va_K.moved (u := U) (U := U.calling g mk a) (Vm.Alike.refl U.vm) qK, qD, nx_same (u := U) (U := U.calling g mk a) rfl qN⟩, va_recv hKc hPc (ci := 9) (q0 := 0) rfl rfl, fun U hU hW => ⟨rfl, by rw [hU], by rw [hU]; exact hPc, va_K.moved hW.alike hKc, hDc.weaken (fun _ _ _ _ => trivial), nx_warm hW hN⟩⟩ rfl rfl hl.1 rfl (lv_room (Nat.le_of_ble_eq_true rfl)) dX9_wipeErrands_10 ⟨Nat.le_of_ble_eq_true rfl, Nat.le_of_ble_eq_true rfl⟩) hS (fun q _ h => hFc q h) hFc (fun r_30 u_31 t H1 locs ht hvm hw hB hz1 hk1 hS => ?_)
                obtain ⟨hP1, hD1⟩ := hB
                rw [ht] at hP1
                obtain ⟨hP, hD⟩ := va_join (wr := [(e0, .inr (1, [.ref a00, .ref a01, .ref a02, .int 0])), (e1, .inr (1, [.ref a10, .ref a11, .ref a12, .int 0])), (e2, .inr (1, [.ref a20, .ref a21, .ref a22, .int 0])), (e3, .inr (1, [.ref a30, .ref a31, .ref a32, .int 0])), (e4, .inr (1, [.ref a40, .ref a41, .ref a42, .int 0])), (e5, .inr (1, [.ref a50, .ref a51, .ref a52, .int 0])), (e6, .inr (1, [.ref a60, .ref a61, .ref a62, .int 0])), (e7, .inr (1, [.ref a70, .ref a71, .ref a72, .int 0]))]) (w1 := [(h0, .inr (9, [.ref y0, .ref y1, .ref y2, .ref y3, .ref y4, .int 0, .ref y5, .int 2, .int 0, .ref y6, .int 0, .ref y7, .int 0, .ref y8, .int 0])), (y2, .inl (k2, 8, .inr (.inr (.inr (.inr g)))))]) hP hD [8, 9] [0, 1, 2, 3, 4, 5, 6, 7] rfl rfl (by decide) (by decide +kernel) hk1 hFc hP1 hD1
                generalize H1 = H at hP hS ⊢
                have hP : va_P (dC, dI) vwCl [(e0, .inr (1, [.ref a00, .ref a01, .ref a02, .int 0])), (e1, .inr (1, [.ref a10, .ref a11, .ref a12, .int 0])), (e2, .inr (1, [.ref a20, .ref a21, .ref a22, .int 0])), (e3, .inr (1, [.ref a30, .ref a31, .ref a32, .int 0])), (e4, .inr (1, [.ref a40, .ref a41, .ref a42, .int 0])), (e5, .inr (1, [.ref a50, .ref a51, .ref a52, .int 0])), (e6, .inr (1, [.ref a60, .ref a61, .ref a62, .int 0])), (e7, .inr (1, [.ref a70, .ref a71, .ref a72, .int 0])), (h0, .inr (9, [.ref y0, .ref y1, .ref y2, .ref y3, .ref y4, .int 0, .ref y5, .int 2, .int 0, .ref y6, .int 0, .ref y7, .int 0, .ref y8, .int 0])), (y2, .inl (k2, 8, .inr (.inr (.inr (.inr g)))))] H := hP
                have hD : va_D A [(e0, .inr (1, [.ref a00, .ref a01, .ref a02, .int 0])), (e1, .inr (1, [.ref a10, .ref a11, .ref a12, .int 0])), (e2, .inr (1, [.ref a20, .ref a21, .ref a22, .int 0])), (e3, .inr (1, [.ref a30, .ref a31, .ref a32, .int 0])), (e4, .inr (1, [.ref a40, .ref a41, .ref a42, .int 0])), (e5, .inr (1, [.ref a50, .ref a51, .ref a52, .int 0])), (e6, .inr (1, [.ref a60, .ref a61, .ref a62, .int 0])), (e7, .inr (1, [.ref a70, .ref a71, .ref a72, .int 0])), (h0, .inr (9, [.ref y0, .ref y1, .ref y2, .ref y3, .ref y4, .int 0, .ref y5, .int 2, .int 0, .ref y6, .int 0, .ref y7, .int 0, .ref y8, .int 0])), (y2, .inl (k2, 8, .inr (.inr (.inr (.inr g)))))] := hD
                refine W.widen (k := 0) (n := 0) (Nat.le_of_ble_eq_true rfl) (Nat.le_of_ble_eq_true rfl) ?_
                rcases hw with ⟨rfl, w_32⟩ | ⟨rfl, w_32⟩
                · try simp only [ti_7] at w_32
                  rw [show g (Int32.toNatClampNeg 7) = some e7 from hg7]
                  refine W.eq (g2 := F0 m 13 ls [.ref e7]) rfl ?_
                  refine lv_astore_n (lv' := [(2, .ref e7), (1, .int 7), (0, .ref h0)]) hx hb dX9_wipeErrands_13 rfl hl (by decide) rfl (fun ls hl => ?_)
                  refine lv_aload_n hx hb dX9_wipeErrands_14 rfl (lv_at hl 0 rfl) ?_
                  refine lv_ifnull hx hb dX9_wipeErrands_15 ?_
                  refine lv_aload_n hx hb dX9_wipeErrands_18 rfl (lv_at hl 0 rfl) ?_
                  refine lv_iconst (v := 0) hx hb dX9_wipeErrands_19 (by decide) ?_
                  refine va_put (D := (dC, dI)) (ci := 1) (v := .int 0) (ty := .int) (C := RX1) (T := TX1) (N := 4) hx hb hg gb_1 tyX1 tyX1_ok nmX1 hown hK hP hD hS 7 rfl rfl 3 (by decide) (hg _ gm_fieldLink_RX9_73_ErrandGuild_Errand_count_I_) (fun _ h9 => h9) rfl (by decide +kernel) rfl rfl (Nat.le_of_ble_eq_true rfl) dX9_wipeErrands_20 (fun H locs hP hD hS => ?_)
                  have hP : va_P (dC, dI) vwCl [(e0, .inr (1, [.ref a00, .ref a01, .ref a02, .int 0])), (e1, .inr (1, [.ref a10, .ref a11, .ref a12, .int 0])), (e2, .inr (1, [.ref a20, .ref a21, .ref a22, .int 0])), (e3, .inr (1, [.ref a30, .ref a31, .ref a32, .int 0])), (e4, .inr (1, [.ref a40, .ref a41, .ref a42, .int 0])), (e5, .inr (1, [.ref a50, .ref a51, .ref a52, .int 0])), (e6, .inr (1, [.ref a60, .ref a61, .ref a62, .int 0])), (e7, .inr (1, [.ref a70, .ref a71, .ref a72, .int 0])), (h0, .inr (9, [.ref y0, .ref y1, .ref y2, .ref y3, .ref y4, .int 0, .ref y5, .int 2, .int 0, .ref y6, .int 0, .ref y7, .int 0, .ref y8, .int 0])), (y2, .inl (k2, 8, .inr (.inr (.inr (.inr g)))))] H := hP
                  have hD : va_D A [(e0, .inr (1, [.ref a00, .ref a01, .ref a02, .int 0])), (e1, .inr (1, [.ref a10, .ref a11, .ref a12, .int 0])), (e2, .inr (1, [.ref a20, .ref a21, .ref a22, .int 0])), (e3, .inr (1, [.ref a30, .ref a31, .ref a32, .int 0])), (e4, .inr (1, [.ref a40, .ref a41, .ref a42, .int 0])), (e5, .inr (1, [.ref a50, .ref a51, .ref a52, .int 0])), (e6, .inr (1, [.ref a60, .ref a61, .ref a62, .int 0])), (e7, .inr (1, [.ref a70, .ref a71, .ref a72, .int 0])), (h0, .inr (9, [.ref y0, .ref y1, .ref y2, .ref y3, .ref y4, .int 0, .ref y5, .int 2, .int 0, .ref y6, .int 0, .ref y7, .int 0, .ref y8, .int 0])), (y2, .inl (k2, 8, .inr (.inr (.inr (.inr g)))))] := hD
                  refine lv_iinc (v := 8) (lv' := [(1, .int 8), (2, .ref e7), (0, .ref h0)]) hx hb dX9_wipeErrands_23 hl (k := 1) rfl (by decide) (by decide) rfl (fun ls hl => ?_)
                  refine lv_goto (tgt := 2) hx hb dX9_wipeErrands_26 (by decide) ?_
                  refine lv_iload_n hx hb dX9_wipeErrands_2 rfl (lv_at hl 0 rfl) ?_
                  refine lv_bipush (v := 8) hx hb dX9_wipeErrands_3 (by decide) ?_
                  refine lv_icmp_ge (tgt := 29) hx hb dX9_wipeErrands_5 (by decide) (fun _ => ?_) (fun c_33 => absurd c_33 (by decide))
                  exact W.vret hx hb hr (fun t ht hW => ⟨⟨(), rfl, trivial, trivial⟩, hS.F ht⟩) hS.2.2 dX9_wipeErrands_29
                · exact absurd (by decide) w_32
              · exact absurd (by decide) w_28
            · exact absurd (by decide) w_24
          · exact absurd (by decide) w_20
        · exact absurd (by decide) w_16
      · exact absurd (by decide) w_12
    · exact absurd (by decide) w_8
  · exact absurd (by decide) w_4

set_option maxHeartbeats 4000000 in
set_option maxRecDepth 100000 in
theorem c_X9_anew (l : Launch) (dC : Nat → ClassId) (dI : Nat → Nat → Nat) (h0 : Nat) (y0 : Nat) (y1 : Nat) (y2 : Nat) (y3 : Nat) (y4 : Nat) (y5 : Nat) (y6 : Nat) (y7 : Nat) (y8 : Nat) (k2 : ClassId) (k5 : ClassId) (g : Nat → Option Nat) (e0 : Nat) (e1 : Nat) (e2 : Nat) (e3 : Nat) (e4 : Nat) (e5 : Nat) (e6 : Nat) (e7 : Nat) (a00 : Nat) (a01 : Nat) (a02 : Nat) (a10 : Nat) (a11 : Nat) (a12 : Nat) (a20 : Nat) (a21 : Nat) (a22 : Nat) (a30 : Nat) (a31 : Nat) (a32 : Nat) (a40 : Nat) (a41 : Nat) (a42 : Nat) (a50 : Nat) (a51 : Nat) (a52 : Nat) (a60 : Nat) (a61 : Nat) (a62 : Nat) (a70 : Nat) (a71 : Nat) (a72 : Nat) (h6 : Nat) (h7 : Nat) (w6 : Nat) (w7 : Nat) (w8 : Nat) (l6 : Int32) (l7 : Int32) (m6 : Int32) (m7 : Int32) (m8 : Int32) (v1 : Int32) (sz : Nat) (hg0 : g (Int32.toNatClampNeg 0) = some e0) (hg1 : g (Int32.toNatClampNeg 1) = some e1) (hg2 : g (Int32.toNatClampNeg 2) = some e2) (hg3 : g (Int32.toNatClampNeg 3) = some e3) (hg4 : g (Int32.toNatClampNeg 4) = some e4) (hg5 : g (Int32.toNatClampNeg 5) = some e5) (hg6 : g (Int32.toNatClampNeg 6) = some e6) (hg7 : g (Int32.toNatClampNeg 7) = some e7) : Met l yX9_anew (.code yX9_anew cX9_anew 3 none :: gw) ({ frames := 3, cells := 0, slots := 0, locals := 63 }) (va_Pc [.ref h0, .int v1] (fun U => U.heap.size = sz ∧ va_P (dC, dI) vwCl [(h0, .inr (9, [.ref y0, .ref y1, .ref y2, .ref y3, .ref y4, .int 0, .ref y5, .int 2, .int 0, .ref y6, .int 0, .ref y7, .int 0, .ref y8, .int 0])), (y2, .inl (k2, 8, .inr (.inr (.inr (.inr g))))), (y5, .inl (k5, 6, .inr (.inr (.inr (.inr (fun _ => none)))))), (y6, .inr (5, [.int l6, .ref h6])), (h6, .inr (0, [.int m6, .ref w6, .int 0])), (y7, .inr (5, [.int l7, .ref h7])), (h7, .inr (0, [.int m7, .ref w7, .int 0])), (y8, .inr (0, [.int m8, .ref w8, .int 0])), (e0, .inr (1, [.ref a00, .ref a01, .ref a02, .int 0])), (e1, .inr (1, [.ref a10, .ref a11, .ref a12, .int 0])), (e2, .inr (1, [.ref a20, .ref a21, .ref a22, .int 0])), (e3, .inr (1, [.ref a30, .ref a31, .ref a32, .int 0])), (e4, .inr (1, [.ref a40, .ref a41, .ref a42, .int 0])), (e5, .inr (1, [.ref a50, .ref a51, .ref a52, .int 0])), (e6, .inr (1, [.ref a60, .ref a61, .ref a62, .int 0])), (e7, .inr (1, [.ref a70, .ref a71, .ref a72, .int 0]))] U.heap ∧ va_K (dC, dI) vwCl [(k2, .object RX1), (k5, .object RX7)] U ∧ va_D (fun _ => True) [(h0, .inr (9, [.ref y0, .ref y1, .ref y2, .ref y3, .ref y4, .int 0, .ref y5, .int 2, .int 0, .ref y6, .int 0, .ref y7, .int 0, .ref y8, .int 0])), (y2, .inl (k2, 8, .inr (.inr (.inr (.inr g))))), (y5, .inl (k5, 6, .inr (.inr (.inr (.inr (fun _ => none)))))), (y6, .inr (5, [.int l6, .ref h6])), (h6, .inr (0, [.int m6, .ref w6, .int 0])), (y7, .inr (5, [.int l7, .ref h7])), (h7, .inr (0, [.int m7, .ref w7, .int 0])), (y8, .inr (0, [.int m8, .ref w8, .int 0])), (e0, .inr (1, [.ref a00, .ref a01, .ref a02, .int 0])), (e1, .inr (1, [.ref a10, .ref a11, .ref a12, .int 0])), (e2, .inr (1, [.ref a20, .ref a21, .ref a22, .int 0])), (e3, .inr (1, [.ref a30, .ref a31, .ref a32, .int 0])), (e4, .inr (1, [.ref a40, .ref a41, .ref a42, .int 0])), (e5, .inr (1, [.ref a50, .ref a51, .ref a52, .int 0])), (e6, .inr (1, [.ref a60, .ref a61, .ref a62, .int 0])), (e7, .inr (1, [.ref a70, .ref a71, .ref a72, .int 0]))] ∧ nx U)) (va_Qv (fun (u : Unit) => True) (fun _ _ => True) (va_A [(h0, .inr (9, [.ref y0, .ref y1, .ref y2, .ref y3, .ref y4, .int 0, .ref y5, .int 2, .int 0, .ref y6, .int 0, .ref y7, .int 0, .ref y8, .int 0])), (y2, .inl (k2, 8, .inr (.inr (.inr (.inr g))))), (y5, .inl (k5, 6, .inr (.inr (.inr (.inr (fun _ => none)))))), (y6, .inr (5, [.int l6, .ref h6])), (h6, .inr (0, [.int m6, .ref w6, .int 0])), (y7, .inr (5, [.int l7, .ref h7])), (h7, .inr (0, [.int m7, .ref w7, .int 0])), (y8, .inr (0, [.int m8, .ref w8, .int 0])), (e0, .inr (1, [.ref a00, .ref a01, .ref a02, .int 0])), (e1, .inr (1, [.ref a10, .ref a11, .ref a12, .int 0])), (e2, .inr (1, [.ref a20, .ref a21, .ref a22, .int 0])), (e3, .inr (1, [.ref a30, .ref a31, .ref a32, .int 0])), (e4, .inr (1, [.ref a40, .ref a41, .ref a42, .int 0])), (e5, .inr (1, [.ref a50, .ref a51, .ref a52, .int 0])), (e6, .inr (1, [.ref a60, .ref a61, .ref a62, .int 0])), (e7, .inr (1, [.ref a70, .ref a71, .ref a72, .int 0]))] sz)) 0 0 (va_A [(h0, .inr (9, [.ref y0, .ref y1, .ref y2, .ref y3, .ref y4, .int 0, .ref y5, .int 2, .int 0, .ref y6, .int 0, .ref y7, .int 0, .ref y8, .int 0])), (y2, .inl (k2, 8, .inr (.inr (.inr (.inr g))))), (y5, .inl (k5, 6, .inr (.inr (.inr (.inr (fun _ => none)))))), (y6, .inr (5, [.int l6, .ref h6])), (h6, .inr (0, [.int m6, .ref w6, .int 0])), (y7, .inr (5, [.int l7, .ref h7])), (h7, .inr (0, [.int m7, .ref w7, .int 0])), (y8, .inr (0, [.int m8, .ref w8, .int 0])), (e0, .inr (1, [.ref a00, .ref a01, .ref a02, .int 0])), (e1, .inr (1, [.ref a10, .ref a11, .ref a12, .int 0])), (e2, .inr (1, [.ref a20, .ref a21, .ref a22, .int 0])), (e3, .inr (1, [.ref a30, .ref a31, .ref a32, .int 0])), (e4, .inr (1, [.ref a40, .ref a41, .ref a42, .int 0])), (e5, .inr (1, [.ref a50, .ref a51, .ref a52, .int 0])), (e6, .inr (1, [.ref a60, .ref a61, .ref a62, .int 0])), (e7, .inr (1, [.ref a70, .ref a71, .ref a72, .int 0]))] sz) := by
  refine Met.ofW (cc := cX9_anew) (maxL := 3) (ret := none) (by decide) rfl ?_
  intro p e s m args below meth c s₁ B hml hv
  obtain ⟨rfl, hsz, hP, hK, hD0, hN⟩ := hv
  have hx := B.exec
  have hb := B.bytes
  have hr := B.returns
  have hts := atoms_spec (ws := .code yX9_anew cX9_anew 3 none :: gw) B.pre
  have hg : ∀ w ∈ gw, w.before _ s = true := fun w h => hts w (List.mem_cons_of_mem _ h)
  have hown : s.vm.findClass RX9 = some m.cls := findClass_of_methodNamed B.named
  have hlocks := B.notSynchronized
  subst hsz
  have hD := hD0.self (sz := s.heap.size)
  generalize hAe : va_A [(h0, .inr (9, [.ref y0, .ref y1, .ref y2, .ref y3, .ref y4, .int 0, .ref y5, .int 2, .int 0, .ref y6, .int 0, .ref y7, .int 0, .ref y8, .int 0])), (y2, .inl (k2, 8, .inr (.inr (.inr (.inr g))))), (y5, .inl (k5, 6, .inr (.inr (.inr (.inr (fun _ => none)))))), (y6, .inr (5, [.int l6, .ref h6])), (h6, .inr (0, [.int m6, .ref w6, .int 0])), (y7, .inr (5, [.int l7, .ref h7])), (h7, .inr (0, [.int m7, .ref w7, .int 0])), (y8, .inr (0, [.int m8, .ref w8, .int 0])), (e0, .inr (1, [.ref a00, .ref a01, .ref a02, .int 0])), (e1, .inr (1, [.ref a10, .ref a11, .ref a12, .int 0])), (e2, .inr (1, [.ref a20, .ref a21, .ref a22, .int 0])), (e3, .inr (1, [.ref a30, .ref a31, .ref a32, .int 0])), (e4, .inr (1, [.ref a40, .ref a41, .ref a42, .int 0])), (e5, .inr (1, [.ref a50, .ref a51, .ref a52, .int 0])), (e6, .inr (1, [.ref a60, .ref a61, .ref a62, .int 0])), (e7, .inr (1, [.ref a70, .ref a71, .ref a72, .int 0]))] s.heap.size = A at hD ⊢
  have hA : ∀ q : Nat, s.heap.size ≤ q → A q := fun q h => by rw [← hAe]; exact Or.inr h
  have hS : va_S A s.heap s.heap [] := va_S.rf
  have hP : va_P (dC, dI) vwCl [(h0, .inr (9, [.ref y0, .ref y1, .ref y2, .ref y3, .ref y4, .int 0, .ref y5, .int 2, .int 0, .ref y6, .int 0, .ref y7, .int 0, .ref y8, .int 0])), (y2, .inl (k2, 8, .inr (.inr (.inr (.inr g))))), (y5, .inl (k5, 6, .inr (.inr (.inr (.inr (fun _ => none)))))), (y6, .inr (5, [.int l6, .ref h6])), (h6, .inr (0, [.int m6, .ref w6, .int 0])), (y7, .inr (5, [.int l7, .ref h7])), (h7, .inr (0, [.int m7, .ref w7, .int 0])), (y8, .inr (0, [.int m8, .ref w8, .int 0])), (e0, .inr (1, [.ref a00, .ref a01, .ref a02, .int 0])), (e1, .inr (1, [.ref a10, .ref a11, .ref a12, .int 0])), (e2, .inr (1, [.ref a20, .ref a21, .ref a22, .int 0])), (e3, .inr (1, [.ref a30, .ref a31, .ref a32, .int 0])), (e4, .inr (1, [.ref a40, .ref a41, .ref a42, .int 0])), (e5, .inr (1, [.ref a50, .ref a51, .ref a52, .int 0])), (e6, .inr (1, [.ref a60, .ref a61, .ref a62, .int 0])), (e7, .inr (1, [.ref a70, .ref a71, .ref a72, .int 0]))] s.heap := hP
  have hl := lv_entry ([.ref h0, .int v1]) (n := 3) (Nat.le_of_ble_eq_true rfl)
  rw [lg_entry_eq]
  generalize (lg_sl ([.ref h0, .int v1]) ++ List.replicate (3 - (lg_sl ([.ref h0, .int v1])).length) Slot.unset).toArray = ls at hl ⊢
  have hl : lv_has ls 3 [(0, .ref h0), (1, .int v1)] := hl
  refine lv_aload_n hx hb dX9_anew_0 rfl (lv_at hl 0 rfl) ?_
  refine lv_iconst (v := 0) hx hb dX9_anew_1 (by decide) ?_
  refine va_put (D := (dC, dI)) (ci := 9) (v := .int 0) (ty := .int) (C := RX9) (T := TX9) (N := 15) hx hb hg gb_9 tyX9 tyX9_ok nmX9 hown hK hP hD hS 0 rfl rfl 5 (by decide) (hg _ gm_fieldLink_RX9_66_ErrandGuild_runCount_I_) (fun _ h9 => h9) rfl (by decide +kernel) rfl rfl (Nat.le_of_ble_eq_true rfl) dX9_anew_2 (fun H locs hP hD hS => ?_)
  have hP : va_P (dC, dI) vwCl [(h0, .inr (9, [.ref y0, .ref y1, .ref y2, .ref y3, .ref y4, .int 0, .ref y5, .int 2, .int 0, .ref y6, .int 0, .ref y7, .int 0, .ref y8, .int 0])), (y2, .inl (k2, 8, .inr (.inr (.inr (.inr g))))), (y5, .inl (k5, 6, .inr (.inr (.inr (.inr (fun _ => none)))))), (y6, .inr (5, [.int l6, .ref h6])), (h6, .inr (0, [.int m6, .ref w6, .int 0])), (y7, .inr (5, [.int l7, .ref h7])), (h7, .inr (0, [.int m7, .ref w7, .int 0])), (y8, .inr (0, [.int m8, .ref w8, .int 0])), (e0, .inr (1, [.ref a00, .ref a01, .ref a02, .int 0])), (e1, .inr (1, [.ref a10, .ref a11, .ref a12, .int 0])), (e2, .inr (1, [.ref a20, .ref a21, .ref a22, .int 0])), (e3, .inr (1, [.ref a30, .ref a31, .ref a32, .int 0])), (e4, .inr (1, [.ref a40, .ref a41, .ref a42, .int 0])), (e5, .inr (1, [.ref a50, .ref a51, .ref a52, .int 0])), (e6, .inr (1, [.ref a60, .ref a61, .ref a62, .int 0])), (e7, .inr (1, [.ref a70, .ref a71, .ref a72, .int 0]))] H := hP
  have hD : va_D A [(h0, .inr (9, [.ref y0, .ref y1, .ref y2, .ref y3, .ref y4, .int 0, .ref y5, .int 2, .int 0, .ref y6, .int 0, .ref y7, .int 0, .ref y8, .int 0])), (y2, .inl (k2, 8, .inr (.inr (.inr (.inr g))))), (y5, .inl (k5, 6, .inr (.inr (.inr (.inr (fun _ => none)))))), (y6, .inr (5, [.int l6, .ref h6])), (h6, .inr (0, [.int m6, .ref w6, .int 0])), (y7, .inr (5, [.int l7, .ref h7])), (h7, .inr (0, [.int m7, .ref w7, .int 0])), (y8, .inr (0, [.int m8, .ref w8, .int 0])), (e0, .inr (1, [.ref a00, .ref a01, .ref a02, .int 0])), (e1, .inr (1, [.ref a10, .ref a11, .ref a12, .int 0])), (e2, .inr (1, [.ref a20, .ref a21, .ref a22, .int 0])), (e3, .inr (1, [.ref a30, .ref a31, .ref a32, .int 0])), (e4, .inr (1, [.ref a40, .ref a41, .ref a42, .int 0])), (e5, .inr (1, [.ref a50, .ref a51, .ref a52, .int 0])), (e6, .inr (1, [.ref a60, .ref a61, .ref a62, .int 0])), (e7, .inr (1, [.ref a70, .ref a71, .ref a72, .int 0]))] := hD
  refine lv_aload_n hx hb dX9_anew_5 rfl (lv_at hl 0 rfl) ?_
  refine lv_iconst (v := 0) hx hb dX9_anew_6 (by decide) ?_
  refine va_put (D := (dC, dI)) (ci := 9) (v := .int 0) (ty := .int) (C := RX9) (T := TX9) (N := 15) hx hb hg gb_9 tyX9 tyX9_ok nmX9 hown hK hP hD hS 0 rfl rfl 8 (by decide) (hg _ gm_fieldLink_RX9_84_ErrandGuild_beats_I_) (fun _ h9 => h9) rfl (by decide +kernel) rfl rfl (Nat.le_of_ble_eq_true rfl) dX9_anew_7 (fun H locs hP hD hS => ?_)
  have hP : va_P (dC, dI) vwCl [(h0, .inr (9, [.ref y0, .ref y1, .ref y2, .ref y3, .ref y4, .int 0, .ref y5, .int 2, .int 0, .ref y6, .int 0, .ref y7, .int 0, .ref y8, .int 0])), (y2, .inl (k2, 8, .inr (.inr (.inr (.inr g))))), (y5, .inl (k5, 6, .inr (.inr (.inr (.inr (fun _ => none)))))), (y6, .inr (5, [.int l6, .ref h6])), (h6, .inr (0, [.int m6, .ref w6, .int 0])), (y7, .inr (5, [.int l7, .ref h7])), (h7, .inr (0, [.int m7, .ref w7, .int 0])), (y8, .inr (0, [.int m8, .ref w8, .int 0])), (e0, .inr (1, [.ref a00, .ref a01, .ref a02, .int 0])), (e1, .inr (1, [.ref a10, .ref a11, .ref a12, .int 0])), (e2, .inr (1, [.ref a20, .ref a21, .ref a22, .int 0])), (e3, .inr (1, [.ref a30, .ref a31, .ref a32, .int 0])), (e4, .inr (1, [.ref a40, .ref a41, .ref a42, .int 0])), (e5, .inr (1, [.ref a50, .ref a51, .ref a52, .int 0])), (e6, .inr (1, [.ref a60, .ref a61, .ref a62, .int 0])), (e7, .inr (1, [.ref a70, .ref a71, .ref a72, .int 0]))] H := hP
  have hD : va_D A [(h0, .inr (9, [.ref y0, .ref y1, .ref y2, .ref y3, .ref y4, .int 0, .ref y5, .int 2, .int 0, .ref y6, .int 0, .ref y7, .int 0, .ref y8, .int 0])), (y2, .inl (k2, 8, .inr (.inr (.inr (.inr g))))), (y5, .inl (k5, 6, .inr (.inr (.inr (.inr (fun _ => none)))))), (y6, .inr (5, [.int l6, .ref h6])), (h6, .inr (0, [.int m6, .ref w6, .int 0])), (y7, .inr (5, [.int l7, .ref h7])), (h7, .inr (0, [.int m7, .ref w7, .int 0])), (y8, .inr (0, [.int m8, .ref w8, .int 0])), (e0, .inr (1, [.ref a00, .ref a01, .ref a02, .int 0])), (e1, .inr (1, [.ref a10, .ref a11, .ref a12, .int 0])), (e2, .inr (1, [.ref a20, .ref a21, .ref a22, .int 0])), (e3, .inr (1, [.ref a30, .ref a31, .ref a32, .int 0])), (e4, .inr (1, [.ref a40, .ref a41, .ref a42, .int 0])), (e5, .inr (1, [.ref a50, .ref a51, .ref a52, .int 0])), (e6, .inr (1, [.ref a60, .ref a61, .ref a62, .int 0])), (e7, .inr (1, [.ref a70, .ref a71, .ref a72, .int 0]))] := hD
  refine lv_iconst (v := 0) hx hb dX9_anew_10 (by decide) ?_
  refine lv_istore_n (lv' := [(2, .int 0), (0, .ref h0), (1, .int v1)]) hx hb dX9_anew_11 rfl hl (by decide) rfl (fun ls hl => ?_)
  refine lv_iload_n hx hb dX9_anew_12 rfl (lv_at hl 0 rfl) ?_
  refine lv_bipush (v := 6) hx hb dX9_anew_13 (by decide) ?_
  refine lv_icmp_ge (tgt := 31) hx hb dX9_anew_15 (by decide) (fun c_1 => absurd c_1 (by decide)) (fun _ => ?_)
  refine lv_aload_n hx hb dX9_anew_18 rfl (lv_at hl 1 rfl) ?_
  refine va_get (D := (dC, dI)) (ci := 9) (v := .ref y5) (C := RX9) (T := TX9) (N := 15) hx hb hg gb_9 hown hK hP 0 rfl rfl 6 (by decide) (hg _ gm_fieldLink_RX9_35_ErrandGuild_onThreads_ALErrandGuild_Run_) (fun _ h9 => h9) rfl dX9_anew_19 ?_
  refine lv_iload_n hx hb dX9_anew_22 rfl (lv_at hl 0 rfl) ?_
  refine lv_null hx hb dX9_anew_23 ?_
  refine va_astqN hx hb hK hP hD hS 2 1 rfl rfl (by unfold vp_in; decide) dX9_anew_24 (fun H locs hP hD hS => ?_)
  have hP : va_P (dC, dI) vwCl [(h0, .inr (9, [.ref y0, .ref y1, .ref y2, .ref y3, .ref y4, .int 0, .ref y5, .int 2, .int 0, .ref y6, .int 0, .ref y7, .int 0, .ref y8, .int 0])), (y2, .inl (k2, 8, .inr (.inr (.inr (.inr g))))), (y5, .inl (k5, 6, .inr (.inr (.inr (.inr (va_up (fun _ => none) (Int32.toNatClampNeg 0) none)))))), (y6, .inr (5, [.int l6, .ref h6])), (h6, .inr (0, [.int m6, .ref w6, .int 0])), (y7, .inr (5, [.int l7, .ref h7])), (h7, .inr (0, [.int m7, .ref w7, .int 0])), (y8, .inr (0, [.int m8, .ref w8, .int 0])), (e0, .inr (1, [.ref a00, .ref a01, .ref a02, .int 0])), (e1, .inr (1, [.ref a10, .ref a11, .ref a12, .int 0])), (e2, .inr (1, [.ref a20, .ref a21, .ref a22, .int 0])), (e3, .inr (1, [.ref a30, .ref a31, .ref a32, .int 0])), (e4, .inr (1, [.ref a40, .ref a41, .ref a42, .int 0])), (e5, .inr (1, [.ref a50, .ref a51, .ref a52, .int 0])), (e6, .inr (1, [.ref a60, .ref a61, .ref a62, .int 0])), (e7, .inr (1, [.ref a70, .ref a71, .ref a72, .int 0]))] H := hP
  have hD : va_D A [(h0, .inr (9, [.ref y0, .ref y1, .ref y2, .ref y3, .ref y4, .int 0, .ref y5, .int 2, .int 0, .ref y6, .int 0, .ref y7, .int 0, .ref y8, .int 0])), (y2, .inl (k2, 8, .inr (.inr (.inr (.inr g))))), (y5, .inl (k5, 6, .inr (.inr (.inr (.inr (va_up (fun _ => none) (Int32.toNatClampNeg 0) none)))))), (y6, .inr (5, [.int l6, .ref h6])), (h6, .inr (0, [.int m6, .ref w6, .int 0])), (y7, .inr (5, [.int l7, .ref h7])), (h7, .inr (0, [.int m7, .ref w7, .int 0])), (y8, .inr (0, [.int m8, .ref w8, .int 0])), (e0, .inr (1, [.ref a00, .ref a01, .ref a02, .int 0])), (e1, .inr (1, [.ref a10, .ref a11, .ref a12, .int 0])), (e2, .inr (1, [.ref a20, .ref a21, .ref a22, .int 0])), (e3, .inr (1, [.ref a30, .ref a31, .ref a32, .int 0])), (e4, .inr (1, [.ref a40, .ref a41, .ref a42, .int 0])), (e5, .inr (1, [.ref a50, .ref a51, .ref a52, .int 0])), (e6, .inr (1, [.ref a60, .ref a61, .ref a62, .int 0])), (e7, .inr (1, [.ref a70, .ref a71, .ref a72, .int 0]))] := hD
  refine lv_iinc (v := 1) (lv' := [(2, .int 1), (0, .ref h0), (1, .int v1)]) hx hb dX9_anew_25 hl (k := 0) rfl (by decide) (by decide) rfl (fun ls hl => ?_)
  refine lv_goto (tgt := 12) hx hb dX9_anew_28 (by decide) ?_
  refine lv_iload_n hx hb dX9_anew_12 rfl (lv_at hl 0 rfl) ?_
  refine lv_bipush (v := 6) hx hb dX9_anew_13 (by decide) ?_
  refine lv_icmp_ge (tgt := 31) hx hb dX9_anew_15 (by decide) (fun c_2 => absurd c_2 (by decide)) (fun _ => ?_)
  refine lv_aload_n hx hb dX9_anew_18 rfl (lv_at hl 1 rfl) ?_
  refine va_get (D := (dC, dI)) (ci := 9) (v := .ref y5) (C := RX9) (T := TX9) (N := 15) hx hb hg gb_9 hown hK hP 0 rfl rfl 6 (by decide) (hg _ gm_fieldLink_RX9_35_ErrandGuild_onThreads_ALErrandGuild_Run_) (fun _ h9 => h9) rfl dX9_anew_19 ?_
  refine lv_iload_n hx hb dX9_anew_22 rfl (lv_at hl 0 rfl) ?_
  refine lv_null hx hb dX9_anew_23 ?_
  refine va_astqN hx hb hK hP hD hS 2 1 rfl rfl (by unfold vp_in; decide) dX9_anew_24 (fun H locs hP hD hS => ?_)
  have hP : va_P (dC, dI) vwCl [(h0, .inr (9, [.ref y0, .ref y1, .ref y2, .ref y3, .ref y4, .int 0, .ref y5, .int 2, .int 0, .ref y6, .int 0, .ref y7, .int 0, .ref y8, .int 0])), (y2, .inl (k2, 8, .inr (.inr (.inr (.inr g))))), (y5, .inl (k5, 6, .inr (.inr (.inr (.inr (va_up (va_up (fun _ => none) (Int32.toNatClampNeg 0) none) (Int32.toNatClampNeg 1) none)))))), (y6, .inr (5, [.int l6, .ref h6])), (h6, .inr (0, [.int m6, .ref w6, .int 0])), (y7, .inr (5, [.int l7, .ref h7])), (h7, .inr (0, [.int m7, .ref w7, .int 0])), (y8, .inr (0, [.int m8, .ref w8, .int 0])), (e0, .inr (1, [.ref a00, .ref a01, .ref a02, .int 0])), (e1, .inr (1, [.ref a10, .ref a11, .ref a12, .int 0])), (e2, .inr (1, [.ref a20, .ref a21, .ref a22, .int 0])), (e3, .inr (1, [.ref a30, .ref a31, .ref a32, .int 0])), (e4, .inr (1, [.ref a40, .ref a41, .ref a42, .int 0])), (e5, .inr (1, [.ref a50, .ref a51, .ref a52, .int 0])), (e6, .inr (1, [.ref a60, .ref a61, .ref a62, .int 0])), (e7, .inr (1, [.ref a70, .ref a71, .ref a72, .int 0]))] H := hP
  have hD : va_D A [(h0, .inr (9, [.ref y0, .ref y1, .ref y2, .ref y3, .ref y4, .int 0, .ref y5, .int 2, .int 0, .ref y6, .int 0, .ref y7, .int 0, .ref y8, .int 0])), (y2, .inl (k2, 8, .inr (.inr (.inr (.inr g))))), (y5, .inl (k5, 6, .inr (.inr (.inr (.inr (va_up (va_up (fun _ => none) (Int32.toNatClampNeg 0) none) (Int32.toNatClampNeg 1) none)))))), (y6, .inr (5, [.int l6, .ref h6])), (h6, .inr (0, [.int m6, .ref w6, .int 0])), (y7, .inr (5, [.int l7, .ref h7])), (h7, .inr (0, [.int m7, .ref w7, .int 0])), (y8, .inr (0, [.int m8, .ref w8, .int 0])), (e0, .inr (1, [.ref a00, .ref a01, .ref a02, .int 0])), (e1, .inr (1, [.ref a10, .ref a11, .ref a12, .int 0])), (e2, .inr (1, [.ref a20, .ref a21, .ref a22, .int 0])), (e3, .inr (1, [.ref a30, .ref a31, .ref a32, .int 0])), (e4, .inr (1, [.ref a40, .ref a41, .ref a42, .int 0])), (e5, .inr (1, [.ref a50, .ref a51, .ref a52, .int 0])), (e6, .inr (1, [.ref a60, .ref a61, .ref a62, .int 0])), (e7, .inr (1, [.ref a70, .ref a71, .ref a72, .int 0]))] := hD
  refine lv_iinc (v := 2) (lv' := [(2, .int 2), (0, .ref h0), (1, .int v1)]) hx hb dX9_anew_25 hl (k := 0) rfl (by decide) (by decide) rfl (fun ls hl => ?_)
  refine lv_goto (tgt := 12) hx hb dX9_anew_28 (by decide) ?_
  refine lv_iload_n hx hb dX9_anew_12 rfl (lv_at hl 0 rfl) ?_
  refine lv_bipush (v := 6) hx hb dX9_anew_13 (by decide) ?_
  refine lv_icmp_ge (tgt := 31) hx hb dX9_anew_15 (by decide) (fun c_3 => absurd c_3 (by decide)) (fun _ => ?_)
  refine lv_aload_n hx hb dX9_anew_18 rfl (lv_at hl 1 rfl) ?_
  refine va_get (D := (dC, dI)) (ci := 9) (v := .ref y5) (C := RX9) (T := TX9) (N := 15) hx hb hg gb_9 hown hK hP 0 rfl rfl 6 (by decide) (hg _ gm_fieldLink_RX9_35_ErrandGuild_onThreads_ALErrandGuild_Run_) (fun _ h9 => h9) rfl dX9_anew_19 ?_
  refine lv_iload_n hx hb dX9_anew_22 rfl (lv_at hl 0 rfl) ?_
  refine lv_null hx hb dX9_anew_23 ?_
  refine va_astqN hx hb hK hP hD hS 2 1 rfl rfl (by unfold vp_in; decide) dX9_anew_24 (fun H locs hP hD hS => ?_)
  have hP : va_P (dC, dI) vwCl [(h0, .inr (9, [.ref y0, .ref y1, .ref y2, .ref y3, .ref y4, .int 0, .ref y5, .int 2, .int 0, .ref y6, .int 0, .ref y7, .int 0, .ref y8, .int 0])), (y2, .inl (k2, 8, .inr (.inr (.inr (.inr g))))), (y5, .inl (k5, 6, .inr (.inr (.inr (.inr (va_up (va_up (va_up (fun _ => none) (Int32.toNatClampNeg 0) none) (Int32.toNatClampNeg 1) none) (Int32.toNatClampNeg 2) none)))))), (y6, .inr (5, [.int l6, .ref h6])), (h6, .inr (0, [.int m6, .ref w6, .int 0])), (y7, .inr (5, [.int l7, .ref h7])), (h7, .inr (0, [.int m7, .ref w7, .int 0])), (y8, .inr (0, [.int m8, .ref w8, .int 0])), (e0, .inr (1, [.ref a00, .ref a01, .ref a02, .int 0])), (e1, .inr (1, [.ref a10, .ref a11, .ref a12, .int 0])), (e2, .inr (1, [.ref a20, .ref a21, .ref a22, .int 0])), (e3, .inr (1, [.ref a30, .ref a31, .ref a32, .int 0])), (e4, .inr (1, [.ref a40, .ref a41, .ref a42, .int 0])), (e5, .inr (1, [.ref a50, .ref a51, .ref a52, .int 0])), (e6, .inr (1, [.ref a60, .ref a61, .ref a62, .int 0])), (e7, .inr (1, [.ref a70, .ref a71, .ref a72, .int 0]))] H := hP
  have hD : va_D A [(h0, .inr (9, [.ref y0, .ref y1, .ref y2, .ref y3, .ref y4, .int 0, .ref y5, .int 2, .int 0, .ref y6, .int 0, .ref y7, .int 0, .ref y8, .int 0])), (y2, .inl (k2, 8, .inr (.inr (.inr (.inr g))))), (y5, .inl (k5, 6, .inr (.inr (.inr (.inr (va_up (va_up (va_up (fun _ => none) (Int32.toNatClampNeg 0) none) (Int32.toNatClampNeg 1) none) (Int32.toNatClampNeg 2) none)))))), (y6, .inr (5, [.int l6, .ref h6])), (h6, .inr (0, [.int m6, .ref w6, .int 0])), (y7, .inr (5, [.int l7, .ref h7])), (h7, .inr (0, [.int m7, .ref w7, .int 0])), (y8, .inr (0, [.int m8, .ref w8, .int 0])), (e0, .inr (1, [.ref a00, .ref a01, .ref a02, .int 0])), (e1, .inr (1, [.ref a10, .ref a11, .ref a12, .int 0])), (e2, .inr (1, [.ref a20, .ref a21, .ref a22, .int 0])), (e3, .inr (1, [.ref a30, .ref a31, .ref a32, .int 0])), (e4, .inr (1, [.ref a40, .ref a41, .ref a42, .int 0])), (e5, .inr (1, [.ref a50, .ref a51, .ref a52, .int 0])), (e6, .inr (1, [.ref a60, .ref a61, .ref a62, .int 0])), (e7, .inr (1, [.ref a70, .ref a71, .ref a72, .int 0]))] := hD
  refine lv_iinc (v := 3) (lv' := [(2, .int 3), (0, .ref h0), (1, .int v1)]) hx hb dX9_anew_25 hl (k := 0) rfl (by decide) (by decide) rfl (fun ls hl => ?_)
  refine lv_goto (tgt := 12) hx hb dX9_anew_28 (by decide) ?_
  refine lv_iload_n hx hb dX9_anew_12 rfl (lv_at hl 0 rfl) ?_
  refine lv_bipush (v := 6) hx hb dX9_anew_13 (by decide) ?_
  refine lv_icmp_ge (tgt := 31) hx hb dX9_anew_15 (by decide) (fun c_4 => absurd c_4 (by decide)) (fun _ => ?_)
  refine lv_aload_n hx hb dX9_anew_18 rfl (lv_at hl 1 rfl) ?_
  refine va_get (D := (dC, dI)) (ci := 9) (v := .ref y5) (C := RX9) (T := TX9) (N := 15) hx hb hg gb_9 hown hK hP 0 rfl rfl 6 (by decide) (hg _ gm_fieldLink_RX9_35_ErrandGuild_onThreads_ALErrandGuild_Run_) (fun _ h9 => h9) rfl dX9_anew_19 ?_
  refine lv_iload_n hx hb dX9_anew_22 rfl (lv_at hl 0 rfl) ?_
  refine lv_null hx hb dX9_anew_23 ?_
  refine va_astqN hx hb hK hP hD hS 2 1 rfl rfl (by unfold vp_in; decide) dX9_anew_24 (fun H locs hP hD hS => ?_)
  have hP : va_P (dC, dI) vwCl [(h0, .inr (9, [.ref y0, .ref y1, .ref y2, .ref y3, .ref y4, .int 0, .ref y5, .int 2, .int 0, .ref y6, .int 0, .ref y7, .int 0, .ref y8, .int 0])), (y2, .inl (k2, 8, .inr (.inr (.inr (.inr g))))), (y5, .inl (k5, 6, .inr (.inr (.inr (.inr (va_up (va_up (va_up (va_up (fun _ => none) (Int32.toNatClampNeg 0) none) (Int32.toNatClampNeg 1) none) (Int32.toNatClampNeg 2) none) (Int32.toNatClampNeg 3) none)))))), (y6, .inr (5, [.int l6, .ref h6])), (h6, .inr (0, [.int m6, .ref w6, .int 0])), (y7, .inr (5, [.int l7, .ref h7])), (h7, .inr (0, [.int m7, .ref w7, .int 0])), (y8, .inr (0, [.int m8, .ref w8, .int 0])), (e0, .inr (1, [.ref a00, .ref a01, .ref a02, .int 0])), (e1, .inr (1, [.ref a10, .ref a11, .ref a12, .int 0])), (e2, .inr (1, [.ref a20, .ref a21, .ref a22, .int 0])), (e3, .inr (1, [.ref a30, .ref a31, .ref a32, .int 0])), (e4, .inr (1, [.ref a40, .ref a41, .ref a42, .int 0])), (e5, .inr (1, [.ref a50, .ref a51, .ref a52, .int 0])), (e6, .inr (1, [.ref a60, .ref a61, .ref a62, .int 0])), (e7, .inr (1, [.ref a70, .ref a71, .ref a72, .int 0]))] H := hP
  have hD : va_D A [(h0, .inr (9, [.ref y0, .ref y1, .ref y2, .ref y3, .ref y4, .int 0, .ref y5, .int 2, .int 0, .ref y6, .int 0, .ref y7, .int 0, .ref y8, .int 0])), (y2, .inl (k2, 8, .inr (.inr (.inr (.inr g))))), (y5, .inl (k5, 6, .inr (.inr (.inr (.inr (va_up (va_up (va_up (va_up (fun _ => none) (Int32.toNatClampNeg 0) none) (Int32.toNatClampNeg 1) none) (Int32.toNatClampNeg 2) none) (Int32.toNatClampNeg 3) none)))))), (y6, .inr (5, [.int l6, .ref h6])), (h6, .inr (0, [.int m6, .ref w6, .int 0])), (y7, .inr (5, [.int l7, .ref h7])), (h7, .inr (0, [.int m7, .ref w7, .int 0])), (y8, .inr (0, [.int m8, .ref w8, .int 0])), (e0, .inr (1, [.ref a00, .ref a01, .ref a02, .int 0])), (e1, .inr (1, [.ref a10, .ref a11, .ref a12, .int 0])), (e2, .inr (1, [.ref a20, .ref a21, .ref a22, .int 0])), (e3, .inr (1, [.ref a30, .ref a31, .ref a32, .int 0])), (e4, .inr (1, [.ref a40, .ref a41, .ref a42, .int 0])), (e5, .inr (1, [.ref a50, .ref a51, .ref a52, .int 0])), (e6, .inr (1, [.ref a60, .ref a61, .ref a62, .int 0])), (e7, .inr (1, [.ref a70, .ref a71, .ref a72, .int 0]))] := hD
  refine lv_iinc (v := 4) (lv' := [(2, .int 4), (0, .ref h0), (1, .int v1)]) hx hb dX9_anew_25 hl (k := 0) rfl (by decide) (by decide) rfl (fun ls hl => ?_)
  refine lv_goto (tgt := 12) hx hb dX9_anew_28 (by decide) ?_
  refine lv_iload_n hx hb dX9_anew_12 rfl (lv_at hl 0 rfl) ?_
  refine lv_bipush (v := 6) hx hb dX9_anew_13 (by decide) ?_
  refine lv_icmp_ge (tgt := 31) hx hb dX9_anew_15 (by decide) (fun c_5 => absurd c_5 (by decide)) (fun _ => ?_)
  refine lv_aload_n hx hb dX9_anew_18 rfl (lv_at hl 1 rfl) ?_
  refine va_get (D := (dC, dI)) (ci := 9) (v := .ref y5) (C := RX9) (T := TX9) (N := 15) hx hb hg gb_9 hown hK hP 0 rfl rfl 6 (by decide) (hg _ gm_fieldLink_RX9_35_ErrandGuild_onThreads_ALErrandGuild_Run_) (fun _ h9 => h9) rfl dX9_anew_19 ?_
  refine lv_iload_n hx hb dX9_anew_22 rfl (lv_at hl 0 rfl) ?_
  refine lv_null hx hb dX9_anew_23 ?_
  refine va_astqN hx hb hK hP hD hS 2 1 rfl rfl (by unfold vp_in; decide) dX9_anew_24 (fun H locs hP hD hS => ?_)
  have hP : va_P (dC, dI) vwCl [(h0, .inr (9, [.ref y0, .ref y1, .ref y2, .ref y3, .ref y4, .int 0, .ref y5, .int 2, .int 0, .ref y6, .int 0, .ref y7, .int 0, .ref y8, .int 0])), (y2, .inl (k2, 8, .inr (.inr (.inr (.inr g))))), (y5, .inl (k5, 6, .inr (.inr (.inr (.inr (va_up (va_up (va_up (va_up (va_up (fun _ => none) (Int32.toNatClampNeg 0) none) (Int32.toNatClampNeg 1) none) (Int32.toNatClampNeg 2) none) (Int32.toNatClampNeg 3) none) (Int32.toNatClampNeg 4) none)))))), (y6, .inr (5, [.int l6, .ref h6])), (h6, .inr (0, [.int m6, .ref w6, .int 0])), (y7, .inr (5, [.int l7, .ref h7])), (h7, .inr (0, [.int m7, .ref w7, .int 0])), (y8, .inr (0, [.int m8, .ref w8, .int 0])), (e0, .inr (1, [.ref a00, .ref a01, .ref a02, .int 0])), (e1, .inr (1, [.ref a10, .ref a11, .ref a12, .int 0])), (e2, .inr (1, [.ref a20, .ref a21, .ref a22, .int 0])), (e3, .inr (1, [.ref a30, .ref a31, .ref a32, .int 0])), (e4, .inr (1, [.ref a40, .ref a41, .ref a42, .int 0])), (e5, .inr (1, [.ref a50, .ref a51, .ref a52, .int 0])), (e6, .inr (1, [.ref a60, .ref a61, .ref a62, .int 0])), (e7, .inr (1, [.ref a70, .ref a71, .ref a72, .int 0]))] H := hP
  have hD : va_D A [(h0, .inr (9, [.ref y0, .ref y1, .ref y2, .ref y3, .ref y4, .int 0, .ref y5, .int 2, .int 0, .ref y6, .int 0, .ref y7, .int 0, .ref y8, .int 0])), (y2, .inl (k2, 8, .inr (.inr (.inr (.inr g))))), (y5, .inl (k5, 6, .inr (.inr (.inr (.inr (va_up (va_up (va_up (va_up (va_up (fun _ => none) (Int32.toNatClampNeg 0) none) (Int32.toNatClampNeg 1) none) (Int32.toNatClampNeg 2) none) (Int32.toNatClampNeg 3) none) (Int32.toNatClampNeg 4) none)))))), (y6, .inr (5, [.int l6, .ref h6])), (h6, .inr (0, [.int m6, .ref w6, .int 0])), (y7, .inr (5, [.int l7, .ref h7])), (h7, .inr (0, [.int m7, .ref w7, .int 0])), (y8, .inr (0, [.int m8, .ref w8, .int 0])), (e0, .inr (1, [.ref a00, .ref a01, .ref a02, .int 0])), (e1, .inr (1, [.ref a10, .ref a11, .ref a12, .int 0])), (e2, .inr (1, [.ref a20, .ref a21, .ref a22, .int 0])), (e3, .inr (1, [.ref a30, .ref a31, .ref a32, .int 0])), (e4, .inr (1, [.ref a40, .ref a41, .ref a42, .int 0])), (e5, .inr (1, [.ref a50, .ref a51, .ref a52, .int 0])), (e6, .inr (1, [.ref a60, .ref a61, .ref a62, .int 0])), (e7, .inr (1, [.ref a70, .ref a71, .ref a72, .int 0]))] := hD
  refine lv_iinc (v := 5) (lv' := [(2, .int 5), (0, .ref h0), (1, .int v1)]) hx hb dX9_anew_25 hl (k := 0) rfl (by decide) (by decide) rfl (fun ls hl => ?_)
  refine lv_goto (tgt := 12) hx hb dX9_anew_28 (by decide) ?_
  refine lv_iload_n hx hb dX9_anew_12 rfl (lv_at hl 0 rfl) ?_
  refine lv_bipush (v := 6) hx hb dX9_anew_13 (by decide) ?_
  refine lv_icmp_ge (tgt := 31) hx hb dX9_anew_15 (by decide) (fun c_6 => absurd c_6 (by decide)) (fun _ => ?_)
  refine lv_aload_n hx hb dX9_anew_18 rfl (lv_at hl 1 rfl) ?_
  refine va_get (D := (dC, dI)) (ci := 9) (v := .ref y5) (C := RX9) (T := TX9) (N := 15) hx hb hg gb_9 hown hK hP 0 rfl rfl 6 (by decide) (hg _ gm_fieldLink_RX9_35_ErrandGuild_onThreads_ALErrandGuild_Run_) (fun _ h9 => h9) rfl dX9_anew_19 ?_
  refine lv_iload_n hx hb dX9_anew_22 rfl (lv_at hl 0 rfl) ?_
  refine lv_null hx hb dX9_anew_23 ?_
  refine va_astqN hx hb hK hP hD hS 2 1 rfl rfl (by unfold vp_in; decide) dX9_anew_24 (fun H locs hP hD hS => ?_)
  have hP : va_P (dC, dI) vwCl [(h0, .inr (9, [.ref y0, .ref y1, .ref y2, .ref y3, .ref y4, .int 0, .ref y5, .int 2, .int 0, .ref y6, .int 0, .ref y7, .int 0, .ref y8, .int 0])), (y2, .inl (k2, 8, .inr (.inr (.inr (.inr g))))), (y5, .inl (k5, 6, .inr (.inr (.inr (.inr (va_up (va_up (va_up (va_up (va_up (va_up (fun _ => none) (Int32.toNatClampNeg 0) none) (Int32.toNatClampNeg 1) none) (Int32.toNatClampNeg 2) none) (Int32.toNatClampNeg 3) none) (Int32.toNatClampNeg 4) none) (Int32.toNatClampNeg 5) none)))))), (y6, .inr (5, [.int l6, .ref h6])), (h6, .inr (0, [.int m6, .ref w6, .int 0])), (y7, .inr (5, [.int l7, .ref h7])), (h7, .inr (0, [.int m7, .ref w7, .int 0])), (y8, .inr (0, [.int m8, .ref w8, .int 0])), (e0, .inr (1, [.ref a00, .ref a01, .ref a02, .int 0])), (e1, .inr (1, [.ref a10, .ref a11, .ref a12, .int 0])), (e2, .inr (1, [.ref a20, .ref a21, .ref a22, .int 0])), (e3, .inr (1, [.ref a30, .ref a31, .ref a32, .int 0])), (e4, .inr (1, [.ref a40, .ref a41, .ref a42, .int 0])), (e5, .inr (1, [.ref a50, .ref a51, .ref a52, .int 0])), (e6, .inr (1, [.ref a60, .ref a61, .ref a62, .int 0])), (e7, .inr (1, [.ref a70, .ref a71, .ref a72, .int 0]))] H := hP
  have hD : va_D A [(h0, .inr (9, [.ref y0, .ref y1, .ref y2, .ref y3, .ref y4, .int 0, .ref y5, .int 2, .int 0, .ref y6, .int 0, .ref y7, .int 0, .ref y8, .int 0])), (y2, .inl (k2, 8, .inr (.inr (.inr (.inr g))))), (y5, .inl (k5, 6, .inr (.inr (.inr (.inr (va_up (va_up (va_up (va_up (va_up (va_up (fun _ => none) (Int32.toNatClampNeg 0) none) (Int32.toNatClampNeg 1) none) (Int32.toNatClampNeg 2) none) (Int32.toNatClampNeg 3) none) (Int32.toNatClampNeg 4) none) (Int32.toNatClampNeg 5) none)))))), (y6, .inr (5, [.int l6, .ref h6])), (h6, .inr (0, [.int m6, .ref w6, .int 0])), (y7, .inr (5, [.int l7, .ref h7])), (h7, .inr (0, [.int m7, .ref w7, .int 0])), (y8, .inr (0, [.int m8, .ref w8, .int 0])), (e0, .inr (1, [.ref a00, .ref a01, .ref a02, .int 0])), (e1, .inr (1, [.ref a10, .ref a11, .ref a12, .int 0])), (e2, .inr (1, [.ref a20, .ref a21, .ref a22, .int 0])), (e3, .inr (1, [.ref a30, .ref a31, .ref a32, .int 0])), (e4, .inr (1, [.ref a40, .ref a41, .ref a42, .int 0])), (e5, .inr (1, [.ref a50, .ref a51, .ref a52, .int 0])), (e6, .inr (1, [.ref a60, .ref a61, .ref a62, .int 0])), (e7, .inr (1, [.ref a70, .ref a71, .ref a72, .int 0]))] := hD
  refine lv_iinc (v := 6) (lv' := [(2, .int 6), (0, .ref h0), (1, .int v1)]) hx hb dX9_anew_25 hl (k := 0) rfl (by decide) (by decide) rfl (fun ls hl => ?_)
  refine lv_goto (tgt := 12) hx hb dX9_anew_28 (by decide) ?_
  refine lv_iload_n hx hb dX9_anew_12 rfl (lv_at hl 0 rfl) ?_
  refine lv_bipush (v := 6) hx hb dX9_anew_13 (by decide) ?_
  refine lv_icmp_ge (tgt := 31) hx hb dX9_anew_15 (by decide) (fun _ => ?_) (fun c_7 => absurd c_7 (by decide))
  refine lv_aload_n hx hb dX9_anew_31 rfl (lv_at hl 1 rfl) ?_
  refine va_get (D := (dC, dI)) (ci := 9) (v := .ref y6) (C := RX9) (T := TX9) (N := 15) hx hb hg gb_9 hown hK hP 0 rfl rfl 9 (by decide) (hg _ gm_fieldLink_RX9_47_ErrandGuild_readings_LErrandGuild_Ledger_) (fun _ h9 => h9) rfl dX9_anew_32 ?_
  have hPc := hP.sub (ws' := [(y6, .inr (5, [.int l6, .ref h6])), (h6, .inr (0, [.int m6, .ref w6, .int 0]))]) [3, 4] rfl
  have hDc := hD.sub (ws' := [(y6, .inr (5, [.int l6, .ref h6])), (h6, .inr (0, [.int m6, .ref w6, .int 0]))]) [3, 4] (by decide) rfl
  have hKc := hK.sub (tys' := []) [] rfl
  have hFc := va_free (wc := [(y6, .inr (5, [.int l6, .ref h6])), (h6, .inr (0, [.int m6, .ref w6, .int 0]))]) hD hS hA [3, 4] rfl
  refine va_callv (va_runV (As := []) (rest := []) ⟨hx, hb, hml, hown, hg⟩ (c_X5_clear l dC dI y6 h6 w6 l6 m6 0 H.size ) (cwV 0 hg (gw_V gm_methodLink_RX9_87_yX5_clear gm_instanceMethod_yX5_clear gm_selects_RX5_yX5_clear_yX5_clear gm_initialized_RX5 gm_code_yX5_clear_cX5_clear_1_none) rfl rfl rfl (by decide +kernel) ⟨Nat.le_of_ble_eq_true rfl, Nat.le_of_ble_eq_true rfl⟩) ⟨fun a U g mk q => by obtain ⟨q0, q1, qP, qK, qD, qN⟩ := q; exact ⟨q0, q1, qP, va_K.moved (u := U) (U := U.calling g mk a) (Vm.Alike.refl U.vm) qK, qD, nx_same (u := U) (U := U.calling g mk a) rfl qN⟩, va_recv hKc hPc (ci := 5) (q0 := 0) rfl rfl, fun U hU hW => ⟨rfl, by rw [hU], by rw [hU]; exact hPc, va_K.moved hW.alike hKc, hDc.weaken (fun _ _ _ _ => trivial), nx_warm hW hN⟩⟩ rfl rfl hl.1 rfl (lv_room (Nat.le_of_ble_eq_true rfl)) dX9_anew_35 ⟨Nat.le_of_ble_eq_true rfl, Nat.le_of_ble_eq_true rfl⟩) hS (fun q _ h => hFc q h) hFc (fun u_9 t H1 locs ht hvm hw hB hz1 hk1 hS => ?_)
  have hP1 : va_P (dC, dI) vwCl [] H1 := nil_P
  have hD1 := nil_D (A := va_A [(y6, .inr (5, [.int l6, .ref h6])), (h6, .inr (0, [.int m6, .ref w6, .int 0]))] H.size)
  obtain ⟨hP, hD⟩ := va_join (wr := [(h0, .inr (9, [.ref y0, .ref y1, .ref y2, .ref y3, .ref y4, .int 0, .ref y5, .int 2, .int 0, .ref y6, .int 0, .ref y7, .int 0, .ref y8, .int 0])), (y2, .inl (k2, 8, .inr (.inr (.inr (.inr g))))), (y5, .inl (k5, 6, .inr (.inr (.inr (.inr (va_up (va_up (va_up (va_up (va_up (va_up (fun _ => none) (Int32.toNatClampNeg 0) none) (Int32.toNatClampNeg 1) none) (Int32.toNatClampNeg 2) none) (Int32.toNatClampNeg 3) none) (Int32.toNatClampNeg 4) none) (Int32.toNatClampNeg 5) none)))))), (y7, .inr (5, [.int l7, .ref h7])), (h7, .inr (0, [.int m7, .ref w7, .int 0])), (y8, .inr (0, [.int m8, .ref w8, .int 0])), (e0, .inr (1, [.ref a00, .ref a01, .ref a02, .int 0])), (e1, .inr (1, [.ref a10, .ref a11, .ref a12, .int 0])), (e2, .inr (1, [.ref a20, .ref a21, .ref a22, .int 0])), (e3, .inr (1, [.ref a30, .ref a31, .ref a32, .int 0])), (e4, .inr (1, [.ref a40, .ref a41, .ref a42, .int 0])), (e5, .inr (1, [.ref a50, .ref a51, .ref a52, .int 0])), (e6, .inr (1, [.ref a60, .ref a61, .ref a62, .int 0])), (e7, .inr (1, [.ref a70, .ref a71, .ref a72, .int 0]))]) (w1 := []) hP hD [3, 4] [0, 1, 2, 5, 6, 7, 8, 9, 10, 11, 12, 13, 14, 15] rfl rfl (by decide) (by decide +kernel) hk1 hFc hP1 hD1
  generalize H1 = H at hP hS ⊢
  have hP : va_P (dC, dI) vwCl [(h0, .inr (9, [.ref y0, .ref y1, .ref y2, .ref y3, .ref y4, .int 0, .ref y5, .int 2, .int 0, .ref y6, .int 0, .ref y7, .int 0, .ref y8, .int 0])), (y2, .inl (k2, 8, .inr (.inr (.inr (.inr g))))), (y5, .inl (k5, 6, .inr (.inr (.inr (.inr (va_up (va_up (va_up (va_up (va_up (va_up (fun _ => none) (Int32.toNatClampNeg 0) none) (Int32.toNatClampNeg 1) none) (Int32.toNatClampNeg 2) none) (Int32.toNatClampNeg 3) none) (Int32.toNatClampNeg 4) none) (Int32.toNatClampNeg 5) none)))))), (y7, .inr (5, [.int l7, .ref h7])), (h7, .inr (0, [.int m7, .ref w7, .int 0])), (y8, .inr (0, [.int m8, .ref w8, .int 0])), (e0, .inr (1, [.ref a00, .ref a01, .ref a02, .int 0])), (e1, .inr (1, [.ref a10, .ref a11, .ref a12, .int 0])), (e2, .inr (1, [.ref a20, .ref a21, .ref a22, .int 0])), (e3, .inr (1, [.ref a30, .ref a31, .ref a32, .int 0])), (e4, .inr (1, [.ref a40, .ref a41, .ref a42, .int 0])), (e5, .inr (1, [.ref a50, .ref a51, .ref a52, .int 0])), (e6, .inr (1, [.ref a60, .ref a61, .ref a62, .int 0])), (e7, .inr (1, [.ref a70, .ref a71, .ref a72, .int 0]))] H := hP
  have hD : va_D A [(h0, .inr (9, [.ref y0, .ref y1, .ref y2, .ref y3, .ref y4, .int 0, .ref y5, .int 2, .int 0, .ref y6, .int 0, .ref y7, .int 0, .ref y8, .int 0])), (y2, .inl (k2, 8, .inr (.inr (.inr (.inr g))))), (y5, .inl (k5, 6, .inr (.inr (.inr (.inr (va_up (va_up (va_up (va_up (va_up (va_up (fun _ => none) (Int32.toNatClampNeg 0) none) (Int32.toNatClampNeg 1) none) (Int32.toNatClampNeg 2) none) (Int32.toNatClampNeg 3) none) (Int32.toNatClampNeg 4) none) (Int32.toNatClampNeg 5) none)))))), (y7, .inr (5, [.int l7, .ref h7])), (h7, .inr (0, [.int m7, .ref w7, .int 0])), (y8, .inr (0, [.int m8, .ref w8, .int 0])), (e0, .inr (1, [.ref a00, .ref a01, .ref a02, .int 0])), (e1, .inr (1, [.ref a10, .ref a11, .ref a12, .int 0])), (e2, .inr (1, [.ref a20, .ref a21, .ref a22, .int 0])), (e3, .inr (1, [.ref a30, .ref a31, .ref a32, .int 0])), (e4, .inr (1, [.ref a40, .ref a41, .ref a42, .int 0])), (e5, .inr (1, [.ref a50, .ref a51, .ref a52, .int 0])), (e6, .inr (1, [.ref a60, .ref a61, .ref a62, .int 0])), (e7, .inr (1, [.ref a70, .ref a71, .ref a72, .int 0]))] := hD
  refine W.widen (k := 0) (n := 0) (Nat.le_of_ble_eq_true rfl) (Nat.le_of_ble_eq_true rfl) ?_
  refine lv_aload_n hx hb dX9_anew_38 rfl (lv_at hl 1 rfl) ?_
  refine lv_iconst (v := 0) hx hb dX9_anew_39 (by decide) ?_
  refine va_put (D := (dC, dI)) (ci := 9) (v := .int 0) (ty := .int) (C := RX9) (T := TX9) (N := 15) hx hb hg gb_9 tyX9 tyX9_ok nmX9 hown hK hP hD hS 0 rfl rfl 10 (by decide) (hg _ gm_fieldLink_RX9_90_ErrandGuild_readingCount_I_) (fun _ h9 => h9) rfl (by decide +kernel) rfl rfl (Nat.le_of_ble_eq_true rfl) dX9_anew_40 (fun H locs hP hD hS => ?_)
  have hP : va_P (dC, dI) vwCl [(h0, .inr (9, [.ref y0, .ref y1, .ref y2, .ref y3, .ref y4, .int 0, .ref y5, .int 2, .int 0, .ref y6, .int 0, .ref y7, .int 0, .ref y8, .int 0])), (y2, .inl (k2, 8, .inr (.inr (.inr (.inr g))))), (y5, .inl (k5, 6, .inr (.inr (.inr (.inr (va_up (va_up (va_up (va_up (va_up (va_up (fun _ => none) (Int32.toNatClampNeg 0) none) (Int32.toNatClampNeg 1) none) (Int32.toNatClampNeg 2) none) (Int32.toNatClampNeg 3) none) (Int32.toNatClampNeg 4) none) (Int32.toNatClampNeg 5) none)))))), (y7, .inr (5, [.int l7, .ref h7])), (h7, .inr (0, [.int m7, .ref w7, .int 0])), (y8, .inr (0, [.int m8, .ref w8, .int 0])), (e0, .inr (1, [.ref a00, .ref a01, .ref a02, .int 0])), (e1, .inr (1, [.ref a10, .ref a11, .ref a12, .int 0])), (e2, .inr (1, [.ref a20, .ref a21, .ref a22, .int 0])), (e3, .inr (1, [.ref a30, .ref a31, .ref a32, .int 0])), (e4, .inr (1, [.ref a40, .ref a41, .ref a42, .int 0])), (e5, .inr (1, [.ref a50, .ref a51, .ref a52, .int 0])), (e6, .inr (1, [.ref a60, .ref a61, .ref a62, .int 0])), (e7, .inr (1, [.ref a70, .ref a71, .ref a72, .int 0]))] H := hP
  have hD : va_D A [(h0, .inr (9, [.ref y0, .ref y1, .ref y2, .ref y3, .ref y4, .int 0, .ref y5, .int 2, .int 0, .ref y6, .int 0, .ref y7, .int 0, .ref y8, .int 0])), (y2, .inl (k2, 8, .inr (.inr (.inr (.inr g))))), (y5, .inl (k5, 6, .inr (.inr (.inr (.inr (va_up (va_up (va_up (va_up (va_up (va_up (fun _ => none) (Int32.toNatClampNeg 0) none) (Int32.toNatClampNeg 1) none) (Int32.toNatClampNeg 2) none) (Int32.toNatClampNeg 3) none) (Int32.toNatClampNeg 4) none) (Int32.toNatClampNeg 5) none)))))), (y7, .inr (5, [.int l7, .ref h7])), (h7, .inr (0, [.int m7, .ref w7, .int 0])), (y8, .inr (0, [.int m8, .ref w8, .int 0])), (e0, .inr (1, [.ref a00, .ref a01, .ref a02, .int 0])), (e1, .inr (1, [.ref a10, .ref a11, .ref a12, .int 0])), (e2, .inr (1, [.ref a20, .ref a21, .ref a22, .int 0])), (e3, .inr (1, [.ref a30, .ref a31, .ref a32, .int 0])), (e4, .inr (1, [.ref a40, .ref a41, .ref a42, .int 0])), (e5, .inr (1, [.ref a50, .ref a51, .ref a52, .int 0])), (e6, .inr (1, [.ref a60, .ref a61, .ref a62, .int 0])), (e7, .inr (1, [.ref a70, .ref a71, .ref a72, .int 0]))] := hD
  refine lv_aload_n hx hb dX9_anew_43 rfl (lv_at hl 1 rfl) ?_
  refine va_get (D := (dC, dI)) (ci := 9) (v := .ref y7) (C := RX9) (T := TX9) (N := 15) hx hb hg gb_9 hown hK hP 0 rfl rfl 11 (by decide) (hg _ gm_fieldLink_RX9_51_ErrandGuild_asked_LErrandGuild_Ledger_) (fun _ h9 => h9) rfl dX9_anew_44 ?_
  have hPc := hP.sub (ws' := [(y7, .inr (5, [.int l7, .ref h7])), (h7, .inr (0, [.int m7, .ref w7, .int 0]))]) [3, 4] rfl
  have hDc := hD.sub (ws' := [(y7, .inr (5, [.int l7, .ref h7])), (h7, .inr (0, [.int m7, .ref w7, .int 0]))]) [3, 4] (by decide) rfl
  have hKc := hK.sub (tys' := []) [] rfl
  have hFc := va_free (wc := [(y7, .inr (5, [.int l7, .ref h7])), (h7, .inr (0, [.int m7, .ref w7, .int 0]))]) hD hS hA [3, 4] rfl
  refine va_callv (va_runV (As := []) (rest := []) ⟨hx, hb, hml, hown, hg⟩ (c_X5_clear l dC dI y7 h7 w7 l7 m7 0 H.size ) (cwV 0 hg (gw_V gm_methodLink_RX9_87_yX5_clear gm_instanceMethod_yX5_clear gm_selects_RX5_yX5_clear_yX5_clear gm_initialized_RX5 gm_code_yX5_clear_cX5_clear_1_none) rfl rfl rfl (by decide +kernel) ⟨Nat.le_of_ble_eq_true rfl, Nat.le_of_ble_eq_true rfl⟩) ⟨fun a U g mk q => by obtain ⟨q0, q1, qP, qK, qD, qN⟩ := q; exact ⟨q0, q1, qP, va_K.moved (u := U) (U := U.calling g mk a) (Vm.Alike.refl U.vm) qK, qD, nx_same (u := U) (U := U.calling g mk a) rfl qN⟩, va_recv hKc hPc (ci := 5) (q0 := 0) rfl rfl, fun U hU hW => ⟨rfl, by rw [hU], by rw [hU]; exact hPc, va_K.moved hW.alike hKc, hDc.weaken (fun _ _ _ _ => trivial), nx_warm hW hN⟩⟩ rfl rfl hl.1 rfl (lv_room (Nat.le_of_ble_eq_true rfl)) dX9_anew_47 ⟨Nat.le_of_ble_eq_true rfl, Nat.le_of_ble_eq_true rfl⟩) hS (fun q _ h => hFc q h) hFc (fun u_11 t H1 locs ht hvm hw hB hz1 hk1 hS => ?_)
  have hP1 : va_P (dC, dI) vwCl [] H1 := nil_P
  have hD1 := nil_D (A := va_A [(y7, .inr (5, [.int l7, .ref h7])), (h7, .inr (0, [.int m7, .ref w7, .int 0]))] H.size)
  obtain ⟨hP, hD⟩ := va_join (wr := [(h0, .inr (9, [.ref y0, .ref y1, .ref y2, .ref y3, .ref y4, .int 0, .ref y5, .int 2, .int 0, .ref y6, .int 0, .ref y7, .int 0, .ref y8, .int 0])), (y2, .inl (k2, 8, .inr (.inr (.inr (.inr g))))), (y5, .inl (k5, 6, .inr (.inr (.inr (.inr (va_up (va_up (va_up (va_up (va_up (va_up (fun _ => none) (Int32.toNatClampNeg 0) none) (Int32.toNatClampNeg 1) none) (Int32.toNatClampNeg 2) none) (Int32.toNatClampNeg 3) none) (Int32.toNatClampNeg 4) none) (Int32.toNatClampNeg 5) none)))))), (y8, .inr (0, [.int m8, .ref w8, .int 0])), (e0, .inr (1, [.ref a00, .ref a01, .ref a02, .int 0])), (e1, .inr (1, [.ref a10, .ref a11, .ref a12, .int 0])), (e2, .inr (1, [.ref a20, .ref a21, .ref a22, .int 0])), (e3, .inr (1, [.ref a30, .ref a31, .ref a32, .int 0])), (e4, .inr (1, [.ref a40, .ref a41, .ref a42, .int 0])), (e5, .inr (1, [.ref a50, .ref a51, .ref a52, .int 0])), (e6, .inr (1, [.ref a60, .ref a61, .ref a62, .int 0])), (e7, .inr (1, [.ref a70, .ref a71, .ref a72, .int 0]))]) (w1 := []) hP hD [3, 4] [0, 1, 2, 5, 6, 7, 8, 9, 10, 11, 12, 13] rfl rfl (by decide) (by decide +kernel) hk1 hFc hP1 hD1
  generalize H1 = H at hP hS ⊢
  have hP : va_P (dC, dI) vwCl [(h0, .inr (9, [.ref y0, .ref y1, .ref y2, .ref y3, .ref y4, .int 0, .ref y5, .int 2, .int 0, .ref y6, .int 0, .ref y7, .int 0, .ref y8, .int 0])), (y2, .inl (k2, 8, .inr (.inr (.inr (.inr g))))), (y5, .inl (k5, 6, .inr (.inr (.inr (.inr (va_up (va_up (va_up (va_up (va_up (va_up (fun _ => none) (Int32.toNatClampNeg 0) none) (Int32.toNatClampNeg 1) none) (Int32.toNatClampNeg 2) none) (Int32.toNatClampNeg 3) none) (Int32.toNatClampNeg 4) none) (Int32.toNatClampNeg 5) none)))))), (y8, .inr (0, [.int m8, .ref w8, .int 0])), (e0, .inr (1, [.ref a00, .ref a01, .ref a02, .int 0])), (e1, .inr (1, [.ref a10, .ref a11, .ref a12, .int 0])), (e2, .inr (1, [.ref a20, .ref a21, .ref a22, .int 0])), (e3, .inr (1, [.ref a30, .ref a31, .ref a32, .int 0])), (e4, .inr (1, [.ref a40, .ref a41, .ref a42, .int 0])), (e5, .inr (1, [.ref a50, .ref a51, .ref a52, .int 0])), (e6, .inr (1, [.ref a60, .ref a61, .ref a62, .int 0])), (e7, .inr (1, [.ref a70, .ref a71, .ref a72, .int 0]))] H := hP
  have hD : va_D A [(h0, .inr (9, [.ref y0, .ref y1, .ref y2, .ref y3, .ref y4, .int 0, .ref y5, .int 2, .int 0, .ref y6, .int 0, .ref y7, .int 0, .ref y8, .int 0])), (y2, .inl (k2, 8, .inr (.inr (.inr (.inr g))))), (y5, .inl (k5, 6, .inr (.inr (.inr (.inr (va_up (va_up (va_up (va_up (va_up (va_up (fun _ => none) (Int32.toNatClampNeg 0) none) (Int32.toNatClampNeg 1) none) (Int32.toNatClampNeg 2) none) (Int32.toNatClampNeg 3) none) (Int32.toNatClampNeg 4) none) (Int32.toNatClampNeg 5) none)))))), (y8, .inr (0, [.int m8, .ref w8, .int 0])), (e0, .inr (1, [.ref a00, .ref a01, .ref a02, .int 0])), (e1, .inr (1, [.ref a10, .ref a11, .ref a12, .int 0])), (e2, .inr (1, [.ref a20, .ref a21, .ref a22, .int 0])), (e3, .inr (1, [.ref a30, .ref a31, .ref a32, .int 0])), (e4, .inr (1, [.ref a40, .ref a41, .ref a42, .int 0])), (e5, .inr (1, [.ref a50, .ref a51, .ref a52, .int 0])), (e6, .inr (1, [.ref a60, .ref a61, .ref a62, .int 0])), (e7, .inr (1, [.ref a70, .ref a71, .ref a72, .int 0]))] := hD
  refine W.widen (k := 0) (n := 0) (Nat.le_of_ble_eq_true rfl) (Nat.le_of_ble_eq_true rfl) ?_
  refine lv_aload_n hx hb dX9_anew_50 rfl (lv_at hl 1 rfl) ?_
  refine lv_iconst (v := 0) hx hb dX9_anew_51 (by decide) ?_
  refine va_put (D := (dC, dI)) (ci := 9) (v := .int 0) (ty := .int) (C := RX9) (T := TX9) (N := 15) hx hb hg gb_9 tyX9 tyX9_ok nmX9 hown hK hP hD hS 0 rfl rfl 12 (by decide) (hg _ gm_fieldLink_RX9_93_ErrandGuild_askedCount_I_) (fun _ h9 => h9) rfl (by decide +kernel) rfl rfl (Nat.le_of_ble_eq_true rfl) dX9_anew_52 (fun H locs hP hD hS => ?_)
  have hP : va_P (dC, dI) vwCl [(h0, .inr (9, [.ref y0, .ref y1, .ref y2, .ref y3, .ref y4, .int 0, .ref y5, .int 2, .int 0, .ref y6, .int 0, .ref y7, .int 0, .ref y8, .int 0])), (y2, .inl (k2, 8, .inr (.inr (.inr (.inr g))))), (y5, .inl (k5, 6, .inr (.inr (.inr (.inr (va_up (va_up (va_up (va_up (va_up (va_up (fun _ => none) (Int32.toNatClampNeg 0) none) (Int32.toNatClampNeg 1) none) (Int32.toNatClampNeg 2) none) (Int32.toNatClampNeg 3) none) (Int32.toNatClampNeg 4) none) (Int32.toNatClampNeg 5) none)))))), (y8, .inr (0, [.int m8, .ref w8, .int 0])), (e0, .inr (1, [.ref a00, .ref a01, .ref a02, .int 0])), (e1, .inr (1, [.ref a10, .ref a11, .ref a12, .int 0])), (e2, .inr (1, [.ref a20, .ref a21, .ref a22, .int 0])), (e3, .inr (1, [.ref a30, .ref a31, .ref a32, .int 0])), (e4, .inr (1, [.ref a40, .ref a41, .ref a42, .int 0])), (e5, .inr (1, [.ref a50, .ref a51, .ref a52, .int 0])), (e6, .inr (1, [.ref a60, .ref a61, .ref a62, .int 0])), (e7, .inr (1, [.ref a70, .ref a71, .ref a72, .int 0]))] H := hP
  have hD : va_D A [(h0, .inr (9, [.ref y0, .ref y1, .ref y2, .ref y3, .ref y4, .int 0, .ref y5, .int 2, .int 0, .ref y6, .int 0, .ref y7, .int 0, .ref y8, .int 0])), (y2, .inl (k2, 8, .inr (.inr (.inr (.inr g))))), (y5, .inl (k5, 6, .inr (.inr (.inr (.inr (va_up (va_up (va_up (va_up (va_up (va_up (fun _ => none) (Int32.toNatClampNeg 0) none) (Int32.toNatClampNeg 1) none) (Int32.toNatClampNeg 2) none) (Int32.toNatClampNeg 3) none) (Int32.toNatClampNeg 4) none) (Int32.toNatClampNeg 5) none)))))), (y8, .inr (0, [.int m8, .ref w8, .int 0])), (e0, .inr (1, [.ref a00, .ref a01, .ref a02, .int 0])), (e1, .inr (1, [.ref a10, .ref a11, .ref a12, .int 0])), (e2, .inr (1, [.ref a20, .ref a21, .ref a22, .int 0])), (e3, .inr (1, [.ref a30, .ref a31, .ref a32, .int 0])), (e4, .inr (1, [.ref a40, .ref a41, .ref a42, .int 0])), (e5, .inr (1, [.ref a50, .ref a51, .ref a52, .int 0])), (e6, .inr (1, [.ref a60, .ref a61, .ref a62, .int 0])), (e7, .inr (1, [.ref a70, .ref a71, .ref a72, .int 0]))] := hD
  refine lv_aload_n hx hb dX9_anew_55 rfl (lv_at hl 1 rfl) ?_
  refine va_get (D := (dC, dI)) (ci := 9) (v := .ref y8) (C := RX9) (T := TX9) (N := 15) hx hb hg gb_9 hown hK hP 0 rfl rfl 13 (by decide) (hg _ gm_fieldLink_RX9_57_ErrandGuild_turns_LErrandGuild_Cells_) (fun _ h9 => h9) rfl dX9_anew_56 ?_
  have hPc := hP.sub (ws' := [(y8, .inr (0, [.int m8, .ref w8, .int 0]))]) [3] rfl
  have hDc := hD.sub (ws' := [(y8, .inr (0, [.int m8, .ref w8, .int 0]))]) [3] (by decide) rfl
  have hKc := hK.sub (tys' := []) [] rfl
  have hFc := va_free (wc := [(y8, .inr (0, [.int m8, .ref w8, .int 0]))]) hD hS hA [3] rfl
  refine va_callv (va_runV (As := []) (rest := []) ⟨hx, hb, hml, hown, hg⟩ (c_X0_clear l dC dI y8 w8 m8 0 H.size ) (cwV 0 hg (gw_V gm_methodLink_RX9_96_yX0_clear gm_instanceMethod_yX0_clear gm_selects_RX0_yX0_clear_yX0_clear gm_initialized_RX0 gm_code_yX0_clear_cX0_clear_1_none) rfl rfl rfl (by decide +kernel) ⟨Nat.le_of_ble_eq_true rfl, Nat.le_of_ble_eq_true rfl⟩) ⟨fun a U g mk q => by obtain ⟨q0, q1, qP, qK, qD, qN⟩ := q; exact ⟨q0, q1, qP, va_K.moved (u := U) (U := U.calling g mk a) (Vm.Alike.refl U.vm) qK, qD, nx_same (u := U) (U := U.calling g mk a) rfl qN⟩, va_recv hKc hPc (ci := 0) (q0 := 0) rfl rfl, fun U hU hW => ⟨rfl, by rw [hU], by rw [hU]; exact hPc, va_K.moved hW.alike hKc, hDc.weaken (fun _ _ _ _ => trivial), nx_warm hW hN⟩⟩ rfl rfl hl.1 rfl (lv_room (Nat.le_of_ble_eq_true rfl)) dX9_anew_59 ⟨Nat.le_of_ble_eq_true rfl, Nat.le_of_ble_eq_true rfl⟩) hS (fun q _ h => hFc q h) hFc (fun u_13 t H1 locs ht hvm hw hB hz1 hk1 hS => ?_)
  have hP1 : va_P (dC, dI) vwCl [] H1 := nil_P
  have hD1 := nil_D (A := va_A [(y8, .inr (0, [.int m8, .ref w8, .int 0]))] H.size)
  obtain ⟨hP, hD⟩ := va_join (wr := [(h0, .inr (9, [.ref y0, .ref y1, .ref y2, .ref y3, .ref y4, .int 0, .ref y5, .int 2, .int 0, .ref y6, .int 0, .ref y7, .int 0, .ref y8, .int 0])), (y2, .inl (k2, 8, .inr (.inr (.inr (.inr g))))), (y5, .inl (k5, 6, .inr (.inr (.inr (.inr (va_up (va_up (va_up (va_up (va_up (va_up (fun _ => none) (Int32.toNatClampNeg 0) none) (Int32.toNatClampNeg 1) none) (Int32.toNatClampNeg 2) none) (Int32.toNatClampNeg 3) none) (Int32.toNatClampNeg 4) none) (Int32.toNatClampNeg 5) none)))))), (e0, .inr (1, [.ref a00, .ref a01, .ref a02, .int 0])), (e1, .inr (1, [.ref a10, .ref a11, .ref a12, .int 0])), (e2, .inr (1, [.ref a20, .ref a21, .ref a22, .int 0])), (e3, .inr (1, [.ref a30, .ref a31, .ref a32, .int 0])), (e4, .inr (1, [.ref a40, .ref a41, .ref a42, .int 0])), (e5, .inr (1, [.ref a50, .ref a51, .ref a52, .int 0])), (e6, .inr (1, [.ref a60, .ref a61, .ref a62, .int 0])), (e7, .inr (1, [.ref a70, .ref a71, .ref a72, .int 0]))]) (w1 := []) hP hD [3] [0, 1, 2, 4, 5, 6, 7, 8, 9, 10, 11] rfl rfl (by decide) (by decide +kernel) hk1 hFc hP1 hD1
  generalize H1 = H at hP hS ⊢
  have hP : va_P (dC, dI) vwCl [(h0, .inr (9, [.ref y0, .ref y1, .ref y2, .ref y3, .ref y4, .int 0, .ref y5, .int 2, .int 0, .ref y6, .int 0, .ref y7, .int 0, .ref y8, .int 0])), (y2, .inl (k2, 8, .inr (.inr (.inr (.inr g))))), (y5, .inl (k5, 6, .inr (.inr (.inr (.inr (va_up (va_up (va_up (va_up (va_up (va_up (fun _ => none) (Int32.toNatClampNeg 0) none) (Int32.toNatClampNeg 1) none) (Int32.toNatClampNeg 2) none) (Int32.toNatClampNeg 3) none) (Int32.toNatClampNeg 4) none) (Int32.toNatClampNeg 5) none)))))), (e0, .inr (1, [.ref a00, .ref a01, .ref a02, .int 0])), (e1, .inr (1, [.ref a10, .ref a11, .ref a12, .int 0])), (e2, .inr (1, [.ref a20, .ref a21, .ref a22, .int 0])), (e3, .inr (1, [.ref a30, .ref a31, .ref a32, .int 0])), (e4, .inr (1, [.ref a40, .ref a41, .ref a42, .int 0])), (e5, .inr (1, [.ref a50, .ref a51, .ref a52, .int 0])), (e6, .inr (1, [.ref a60, .ref a61, .ref a62, .int 0])), (e7, .inr (1, [.ref a70, .ref a71, .ref a72, .int 0]))] H := hP
  have hD : va_D A [(h0, .inr (9, [.ref y0, .ref y1, .ref y2, .ref y3, .ref y4, .int 0, .ref y5, .int 2, .int 0, .ref y6, .int 0, .ref y7, .int 0, .ref y8, .int 0])), (y2, .inl (k2, 8, .inr (.inr (.inr (.inr g))))), (y5, .inl (k5, 6, .inr (.inr (.inr (.inr (va_up (va_up (va_up (va_up (va_up (va_up (fun _ => none) (Int32.toNatClampNeg 0) none) (Int32.toNatClampNeg 1) none) (Int32.toNatClampNeg 2) none) (Int32.toNatClampNeg 3) none) (Int32.toNatClampNeg 4) none) (Int32.toNatClampNeg 5) none)))))), (e0, .inr (1, [.ref a00, .ref a01, .ref a02, .int 0])), (e1, .inr (1, [.ref a10, .ref a11, .ref a12, .int 0])), (e2, .inr (1, [.ref a20, .ref a21, .ref a22, .int 0])), (e3, .inr (1, [.ref a30, .ref a31, .ref a32, .int 0])), (e4, .inr (1, [.ref a40, .ref a41, .ref a42, .int 0])), (e5, .inr (1, [.ref a50, .ref a51, .ref a52, .int 0])), (e6, .inr (1, [.ref a60, .ref a61, .ref a62, .int 0])), (e7, .inr (1, [.ref a70, .ref a71, .ref a72, .int 0]))] := hD
  refine W.widen (k := 0) (n := 0) (Nat.le_of_ble_eq_true rfl) (Nat.le_of_ble_eq_true rfl) ?_
  refine lv_aload_n hx hb dX9_anew_62 rfl (lv_at hl 1 rfl) ?_
  refine lv_iconst (v := 0) hx hb dX9_anew_63 (by decide) ?_
  refine va_put (D := (dC, dI)) (ci := 9) (v := .int 0) (ty := .int) (C := RX9) (T := TX9) (N := 15) hx hb hg gb_9 tyX9 tyX9_ok nmX9 hown hK hP hD hS 0 rfl rfl 14 (by decide) (hg _ gm_fieldLink_RX9_97_ErrandGuild_turnCount_I_) (fun _ h9 => h9) rfl (by decide +kernel) rfl rfl (Nat.le_of_ble_eq_true rfl) dX9_anew_64 (fun H locs hP hD hS => ?_)
  have hP : va_P (dC, dI) vwCl [(h0, .inr (9, [.ref y0, .ref y1, .ref y2, .ref y3, .ref y4, .int 0, .ref y5, .int 2, .int 0, .ref y6, .int 0, .ref y7, .int 0, .ref y8, .int 0])), (y2, .inl (k2, 8, .inr (.inr (.inr (.inr g))))), (y5, .inl (k5, 6, .inr (.inr (.inr (.inr (va_up (va_up (va_up (va_up (va_up (va_up (fun _ => none) (Int32.toNatClampNeg 0) none) (Int32.toNatClampNeg 1) none) (Int32.toNatClampNeg 2) none) (Int32.toNatClampNeg 3) none) (Int32.toNatClampNeg 4) none) (Int32.toNatClampNeg 5) none)))))), (e0, .inr (1, [.ref a00, .ref a01, .ref a02, .int 0])), (e1, .inr (1, [.ref a10, .ref a11, .ref a12, .int 0])), (e2, .inr (1, [.ref a20, .ref a21, .ref a22, .int 0])), (e3, .inr (1, [.ref a30, .ref a31, .ref a32, .int 0])), (e4, .inr (1, [.ref a40, .ref a41, .ref a42, .int 0])), (e5, .inr (1, [.ref a50, .ref a51, .ref a52, .int 0])), (e6, .inr (1, [.ref a60, .ref a61, .ref a62, .int 0])), (e7, .inr (1, [.ref a70, .ref a71, .ref a72, .int 0]))] H := hP
  have hD : va_D A [(h0, .inr (9, [.ref y0, .ref y1, .ref y2, .ref y3, .ref y4, .int 0, .ref y5, .int 2, .int 0, .ref y6, .int 0, .ref y7, .int 0, .ref y8, .int 0])), (y2, .inl (k2, 8, .inr (.inr (.inr (.inr g))))), (y5, .inl (k5, 6, .inr (.inr (.inr (.inr (va_up (va_up (va_up (va_up (va_up (va_up (fun _ => none) (Int32.toNatClampNeg 0) none) (Int32.toNatClampNeg 1) none) (Int32.toNatClampNeg 2) none) (Int32.toNatClampNeg 3) none) (Int32.toNatClampNeg 4) none) (Int32.toNatClampNeg 5) none)))))), (e0, .inr (1, [.ref a00, .ref a01, .ref a02, .int 0])), (e1, .inr (1, [.ref a10, .ref a11, .ref a12, .int 0])), (e2, .inr (1, [.ref a20, .ref a21, .ref a22, .int 0])), (e3, .inr (1, [.ref a30, .ref a31, .ref a32, .int 0])), (e4, .inr (1, [.ref a40, .ref a41, .ref a42, .int 0])), (e5, .inr (1, [.ref a50, .ref a51, .ref a52, .int 0])), (e6, .inr (1, [.ref a60, .ref a61, .ref a62, .int 0])), (e7, .inr (1, [.ref a70, .ref a71, .ref a72, .int 0]))] := hD
  refine lv_iload_n hx hb dX9_anew_67 rfl (lv_at hl 2 rfl) ?_
  refine lv_if_eq (tgt := 75) hx hb dX9_anew_68 (by decide) (fun c_14 => ?_) (fun c_14 => ?_)
  · simp only [i_lt, i_le, i_eq, ti_0] at c_14
    exact W.vret hx hb hr (fun t ht hW => ⟨⟨(), rfl, trivial, trivial⟩, hS.F ht⟩) hS.2.2 dX9_anew_75
  · simp only [i_lt, i_le, i_eq, ti_0] at c_14
    refine lv_aload_n hx hb dX9_anew_71 rfl (lv_at hl 1 rfl) ?_
    have hPc := hP.sub (ws' := [(h0, .inr (9, [.ref y0, .ref y1, .ref y2, .ref y3, .ref y4, .int 0, .ref y5, .int 2, .int 0, .ref y6, .int 0, .ref y7, .int 0, .ref y8, .int 0])), (y2, .inl (k2, 8, .inr (.inr (.inr (.inr g))))), (e0, .inr (1, [.ref a00, .ref a01, .ref a02, .int 0])), (e1, .inr (1, [.ref a10, .ref a11, .ref a12, .int 0])), (e2, .inr (1, [.ref a20, .ref a21, .ref a22, .int 0])), (e3, .inr (1, [.ref a30, .ref a31, .ref a32, .int 0])), (e4, .inr (1, [.ref a40, .ref a41, .ref a42, .int 0])), (e5, .inr (1, [.ref a50, .ref a51, .ref a52, .int 0])), (e6, .inr (1, [.ref a60, .ref a61, .ref a62, .int 0])), (e7, .inr (1, [.ref a70, .ref a71, .ref a72, .int 0]))]) [0, 1, 3, 4, 5, 6, 7, 8, 9, 10] rfl
    have hDc := hD.sub (ws' := [(h0, .inr (9, [.ref y0, .ref y1, .ref y2, .ref y3, .ref y4, .int 0, .ref y5, .int 2, .int 0, .ref y6, .int 0, .ref y7, .int 0, .ref y8, .int 0])), (y2, .inl (k2, 8, .inr (.inr (.inr (.inr g))))), (e0, .inr (1, [.ref a00, .ref a01, .ref a02, .int 0])), (e1, .inr (1, [.ref a10, .ref a11, .ref a12, .int 0])), (e2, .inr (1, [.ref a20, .ref a21, .ref a22, .int 0])), (e3, .inr (1, [.ref a30, .ref a31, .ref a32, .int 0])), (e4, .inr (1, [.ref a40, .ref a41, .ref a42, .int 0])), (e5, .inr (1, [.ref a50, .ref a51, .ref a52, .int 0])), (e6, .inr (1, [.ref a60, .ref a61, .ref a62, .int 0])), (e7, .inr (1, [.ref a70, .ref a71, .ref a72, .int 0]))]) [0, 1, 3, 4, 5, 6, 7, 8, 9, 10] (by decide) rfl
    have hKc := hK.sub (tys' := [(k2, .object RX1)]) [0] rfl
    have hFc := va_free (wc := [(h0, .inr (9, [.ref y0, .ref y1, .ref y2, .ref y3, .ref y4, .int 0, .ref y5, .int 2, .int 0, .ref y6, .int 0, .ref y7, .int 0, .ref y8, .int 0])), (y2, .inl (k2, 8, .inr (.inr (.inr (.inr g))))), (e0, .inr (1, [.ref a00, .ref a01, .ref a02, .int 0])), (e1, .inr (1, [.ref a10, .ref a11, .ref a12, .int 0])), (e2, .inr (1, [.ref a20, .ref a21, .ref a22, .int 0])), (e3, .inr (1, [.ref a30, .ref a31, .ref a32, .int 0])), (e4, .inr (1, [.ref a40, .ref a41, .ref a42, .int 0])), (e5, .inr (1, [.ref a50, .ref a51, .ref a52, .int 0])), (e6, .inr (1, [.ref a60, .ref a61, .ref a62, .int 0])), (e7, .inr (1, [.ref a70, .ref a71, .ref a72, .int 0]))]) hD hS hA [0, 1, 3, 4, 5, 6, 7, 8, 9, 10] rfl
    refine va_callv (va_runV (As := []) (rest := []) ⟨hx, hb, hml, hown, hg⟩ (c_X9_wipeErrands l dC dI h0 y0 y1 y2 y3 y4 y5 y6 y7 y8 k2 g e0 e1 e2 e3 e4 e5 e6 e7 a00 a01 a02 a10 a11 a12 a20 a21 a22 a30 a31 a32 a40 a41 a42 a50 a51 a52 a60 a61 a62 a70 a71 a72 H.size (hg0) (hg1) (hg2) (hg3) (hg4) (hg5) (hg6) (hg7)) (cwV 0 hg (gw_V gm_methodLink_RX9_100_yX9_wipeErrands gm_instanceMethod_yX9_wipeErrands gm_selects_RX9_yX9_wipeErrands_yX9_wipeErrands gm_initialized_RX9 gm_code_yX9_wipeErrands_cX9_wipeErrands_3_none) rfl rfl rfl (by decide +kernel) ⟨Nat.le_of_ble_eq_true rfl, Nat.le_of_ble_eq_true rfl⟩) ⟨fun a U g mk q => by obtain ⟨q0, q1, qP, qK, qD, qN⟩ := q; exact ⟨q0, q1, qP, va_K.moved (u := U) (U := U.calling g mk a) (Vm.Alike.refl U.vm) qK, qD, nx_same (u := U) (U := U.calling g mk a) rfl qN⟩, va_recv hKc hPc (ci := 9) (q0 := 0) rfl rfl, fun U hU hW => ⟨rfl, by rw [hU], by rw [hU]; exact hPc, va_K.moved hW.alike hKc, hDc.weaken (fun _ _ _ _ => trivial), nx_warm hW hN⟩⟩ rfl rfl hl.1 rfl (lv_room (Nat.le_of_ble_eq_true rfl)) dX9_anew_72 ⟨Nat.le_of_ble_eq_true rfl, Nat.le_of_ble_eq_true rfl⟩) hS (fun q _ h => hFc q h) hFc (fun u_16 t H1 locs ht hvm hw hB hz1 hk1 hS => ?_)
    have hP1 : va_P (dC, dI) vwCl [] H1 := nil_P
    have hD1 := nil_D (A := va_A [(h0, .inr (9, [.ref y0, .ref y1, .ref y2, .ref y3, .ref y4, .int 0, .ref y5, .int 2, .int 0, .ref y6, .int 0, .ref y7, .int 0, .ref y8, .int 0])), (y2, .inl (k2, 8, .inr (.inr (.inr (.inr g))))), (e0, .inr (1, [.ref a00, .ref a01, .ref a02, .int 0])), (e1, .inr (1, [.ref a10, .ref a11, .ref a12, .int 0])), (e2, .inr (1, [.ref a20, .ref a21, .ref a22, .int 0])), (e3, .inr (1, [.ref a30, .ref a31, .ref a32, .int 0])), (e4, .inr (1, [.ref a40, .ref a41, .ref a42, .int 0])), (e5, .inr (1, [.ref a50, .ref a51, .ref a52, .int 0])), (e6, .inr (1, [.ref a60, .ref a61, .ref a62, .int 0])), (e7, .inr (1, [.ref a70, .ref a71, .ref a72, .int 0]))] H.size)
    obtain ⟨hP, hD⟩ := va_join (wr := [(y5, .inl (k5, 6, .inr (.inr (.inr (.inr (va_up (va_up (va_up (va_up (va_up (va_up (fun _ => none) (Int32.toNatClampNeg 0) none) (Int32.toNatClampNeg 1) none) (Int32.toNatClampNeg 2) none) (Int32.toNatClampNeg 3) none) (Int32.toNatClampNeg 4) none) (Int32.toNatClampNeg 5) none))))))]) (w1 := []) hP hD [0, 1, 3, 4, 5, 6, 7, 8, 9, 10] [2] rfl rfl (by decide) (by decide +kernel) hk1 hFc hP1 hD1
    generalize H1 = H at hP hS ⊢
    have hP : va_P (dC, dI) vwCl [(y5, .inl (k5, 6, .inr (.inr (.inr (.inr (va_up (va_up (va_up (va_up (va_up (va_up (fun _ => none) (Int32.toNatClampNeg 0) none) (Int32.toNatClampNeg 1) none) (Int32.toNatClampNeg 2) none) (Int32.toNatClampNeg 3) none) (Int32.toNatClampNeg 4) none) (Int32.toNatClampNeg 5) none))))))] H := hP
    have hD : va_D A [(y5, .inl (k5, 6, .inr (.inr (.inr (.inr (va_up (va_up (va_up (va_up (va_up (va_up (fun _ => none) (Int32.toNatClampNeg 0) none) (Int32.toNatClampNeg 1) none) (Int32.toNatClampNeg 2) none) (Int32.toNatClampNeg 3) none) (Int32.toNatClampNeg 4) none) (Int32.toNatClampNeg 5) none))))))] := hD
    refine W.widen (k := 0) (n := 0) (Nat.le_of_ble_eq_true rfl) (Nat.le_of_ble_eq_true rfl) ?_
    exact W.vret hx hb hr (fun t ht hW => ⟨⟨(), rfl, trivial, trivial⟩, hS.F ht⟩) hS.2.2 dX9_anew_75

set_option maxHeartbeats 4000000 in
set_option maxRecDepth 100000 in
theorem c_X7_init (l : Launch) (dC : Nat → ClassId) (dI : Nat → Nat → Nat) (h0 : Nat) (v1 : Int32) (sz : Nat)  : Met l yX7_init (.code yX7_init cX7_init 2 none :: gw) ({ frames := 2, cells := 15, slots := 213, locals := 41 }) (va_Pc [.ref h0, .int v1] (fun U => U.heap.size = sz ∧ va_P (dC, dI) vwCl [(h0, .inr (7, [.int 0, .int 0, .int 0, .int 0, .int 0, .int 0, .int 0, .int 0, .int 0, .int 0, .null, .null, .null, .null, .null]))] U.heap ∧ va_K (dC, dI) vwCl [] U ∧ va_D (fun _ => True) [(h0, .inr (7, [.int 0, .int 0, .int 0, .int 0, .int 0, .int 0, .int 0, .int 0, .int 0, .int 0, .null, .null, .null, .null, .null]))] ∧ nx U)) (va_Qv (fun (u : wS) => True) (fun u t => va_P (dC, dI) vwCl [(h0, .inr (7, [.int v1, .int 0, .int 0, .int 0, .int 0, .int 0, .int 0, .int 0, .int 0, .int 0, .ref (u.1 0), .ref (u.1 1), .ref (u.1 2), .ref (u.1 3), .ref (u.1 4)])), ((u.1 0), .inr (4, [.null, .null, .int 0, .int 0, .int 0, .null, .null, .null, .int 0])), ((u.1 1), .inr (6, [.ref (u.1 5), .ref (u.1 6), .ref (u.1 7)])), ((u.1 5), .inl ((u.2.1 0), 8, .inl (fun _ => 0))), ((u.1 7), .inl ((u.2.1 1), 8, .inl (fun _ => 0))), ((u.1 2), .inr (8, [.ref (u.1 8), .ref (u.1 9), .ref (u.1 10), .int 0, .ref (u.1 11), .ref (u.1 12), .ref (u.1 13), .int 0, .int 0])), ((u.1 3), .inr (2, [.int 0, .int 0, .int 0, .int 0, .int 0])), ((u.1 4), .inr (0, [.int 1048576, .ref (u.1 14), .int 0]))] t.heap ∧ va_D (va_A [(h0, .inr (7, [.int 0, .int 0, .int 0, .int 0, .int 0, .int 0, .int 0, .int 0, .int 0, .int 0, .null, .null, .null, .null, .null]))] sz) [(h0, .inr (7, [.int v1, .int 0, .int 0, .int 0, .int 0, .int 0, .int 0, .int 0, .int 0, .int 0, .ref (u.1 0), .ref (u.1 1), .ref (u.1 2), .ref (u.1 3), .ref (u.1 4)])), ((u.1 0), .inr (4, [.null, .null, .int 0, .int 0, .int 0, .null, .null, .null, .int 0])), ((u.1 1), .inr (6, [.ref (u.1 5), .ref (u.1 6), .ref (u.1 7)])), ((u.1 5), .inl ((u.2.1 0), 8, .inl (fun _ => 0))), ((u.1 7), .inl ((u.2.1 1), 8, .inl (fun _ => 0))), ((u.1 2), .inr (8, [.ref (u.1 8), .ref (u.1 9), .ref (u.1 10), .int 0, .ref (u.1 11), .ref (u.1 12), .ref (u.1 13), .int 0, .int 0])), ((u.1 3), .inr (2, [.int 0, .int 0, .int 0, .int 0, .int 0])), ((u.1 4), .inr (0, [.int 1048576, .ref (u.1 14), .int 0]))] ∧ va_K (dC, dI) vwCl [((u.2.1 0), .boolean), ((u.2.1 1), .int)] t) (va_A [(h0, .inr (7, [.int 0, .int 0, .int 0, .int 0, .int 0, .int 0, .int 0, .int 0, .int 0, .int 0, .null, .null, .null, .null, .null]))] sz)) 15 213 (va_A [(h0, .inr (7, [.int 0, .int 0, .int 0, .int 0, .int 0, .int 0, .int 0, .int 0, .int 0, .int 0, .null, .null, .null, .null, .null]))] sz) := by
  refine Met.ofW (cc := cX7_init) (maxL := 2) (ret := none) (by decide) rfl ?_
  intro p e s m args below meth c s₁ B hml hv
  obtain ⟨rfl, hsz, hP, hK, hD0, hN⟩ := hv
  have hx := B.exec
  have hb := B.bytes
  have hr := B.returns
  have hts := atoms_spec (ws := .code yX7_init cX7_init 2 none :: gw) B.pre
  have hg : ∀ w ∈ gw, w.before _ s = true := fun w h => hts w (List.mem_cons_of_mem _ h)
  have hown : s.vm.findClass RX7 = some m.cls := findClass_of_methodNamed B.named
  have hlocks := B.notSynchronized
  have hin : meth.name = "<init>" := (name_of_methodNamed B.named B.method).1
  subst hsz
  have hD := hD0.self (sz := s.heap.size)
  generalize hAe : va_A [(h0, .inr (7, [.int 0, .int 0, .int 0, .int 0, .int 0, .int 0, .int 0, .int 0, .int 0, .int 0, .null, .null, .null, .null, .null]))] s.heap.size = A at hD ⊢
  have hA : ∀ q : Nat, s.heap.size ≤ q → A q := fun q h => by rw [← hAe]; exact Or.inr h
  have hS : va_S A s.heap s.heap [] := va_S.rf
  have hP : va_P (dC, dI) vwCl [(h0, .inr (7, [.int 0, .int 0, .int 0, .int 0, .int 0, .int 0, .int 0, .int 0, .int 0, .int 0, .null, .null, .null, .null, .null]))] s.heap := hP
  have hl := lv_entry ([.ref h0, .int v1]) (n := 2) (Nat.le_of_ble_eq_true rfl)
  rw [lg_entry_eq]
  generalize (lg_sl ([.ref h0, .int v1]) ++ List.replicate (2 - (lg_sl ([.ref h0, .int v1])).length) Slot.unset).toArray = ls at hl ⊢
  have hl : lv_has ls 2 [(0, .ref h0), (1, .int v1)] := hl
  refine lv_aload_n hx hb dX7_init_0 rfl (lv_at hl 0 rfl) ?_
  refine W.objInit hx hb hown (hg _ gm_methodLink_RX7_3_objectInit) (hg _ gm_instanceMethod_objectInit) (hg _ gm_code_objectInit_oi_1_none) rfl (by rw [hml]; exact hl.1) rfl dX7_init_1 (Nat.le_of_ble_eq_true rfl) (Nat.le_of_ble_eq_true rfl) ?_
  refine W.eq (g2 := F0 m 4 ls []) rfl ?_
  refine lv_aload_n hx hb dX7_init_4 rfl (lv_at hl 0 rfl) ?_
  refine va_new (ci := 4) (fs := [.null, .null, .int 0, .int 0, .int 0, .null, .null, .null, .int 0]) (C := RX4) (T := TX4) (N := 9) hx hb hg gb_4 tyX4 tyX4_ok hown (hg _ gm_classLink_RX7_9_RX4) (hg _ gm_instantiable_RX4_9) (hg _ gm_initialized_RX4) hK hP hD hS hA rfl df_X4 (Nat.le_of_ble_eq_true rfl) (Nat.le_of_ble_eq_true rfl) dX7_init_5 (fun q_1 H hP hD hS => ?_)
  have hP : va_P (dC, dI) vwCl [(h0, .inr (7, [.int 0, .int 0, .int 0, .int 0, .int 0, .int 0, .int 0, .int 0, .int 0, .int 0, .null, .null, .null, .null, .null])), (q_1, .inr (4, [.null, .null, .int 0, .int 0, .int 0, .null, .null, .null, .int 0]))] H := hP
  have hD : va_D A [(h0, .inr (7, [.int 0, .int 0, .int 0, .int 0, .int 0, .int 0, .int 0, .int 0, .int 0, .int 0, .null, .null, .null, .null, .null])), (q_1, .inr (4, [.null, .null, .int 0, .int 0, .int 0, .null, .null, .null, .int 0]))] := hD
  refine W.widen (k := 1) (n := 9) (Nat.le_of_ble_eq_true rfl) (Nat.le_of_ble_eq_true rfl) ?_
  refine lv_dup hx hb dX7_init_8 rfl ?_
  have hPc := hP.sub (ws' := [(q_1, .inr (4, [.null, .null, .int 0, .int 0, .int 0, .null, .null, .null, .int 0]))]) [1] rfl
  have hDc := hD.sub (ws' := [(q_1, .inr (4, [.null, .null, .int 0, .int 0, .int 0, .null, .null, .null, .int 0]))]) [1] (by decide) rfl
  have hKc := hK.sub (tys' := []) [] rfl
  have hFc := va_free (wc := [(q_1, .inr (4, [.null, .null, .int 0, .int 0, .int 0, .null, .null, .null, .int 0]))]) hD hS hA [1] rfl
  refine va_callv (va_runIN (As := []) (rest := [.ref q_1, .ref h0]) ⟨hx, hb, hml, hown, hg⟩ (c_X4_init l dC dI q_1 H.size ) (⟨va_cnB 0 hg (gw_c gm_code_yX4_init_cX4_init_1_none) rfl rfl rfl (nx_RX7_11 hN) (hg _ gm_initialized_RX4) (by decide +kernel) ⟨Nat.le_of_ble_eq_true rfl, Nat.le_of_ble_eq_true rfl⟩, rfl, hg _ gm_instanceMethod_yX4_init⟩) ⟨fun a U g mk q => by obtain ⟨q0, q1, qP, qK, qD, qN⟩ := q; exact ⟨q0, q1, qP, va_K.moved (u := U) (U := U.calling g mk a) (Vm.Alike.refl U.vm) qK, qD, nx_same (u := U) (U := U.calling g mk a) rfl qN⟩, fun U hU hW => ⟨rfl, by rw [hU], by rw [hU]; exact hPc, va_K.moved hW.alike hKc, hDc.weaken (fun _ _ _ _ => trivial), nx_warm hW hN⟩⟩ rfl rfl hl.1 rfl (lv_room (Nat.le_of_ble_eq_true rfl)) dX7_init_9 ⟨Nat.le_of_ble_eq_true rfl, Nat.le_of_ble_eq_true rfl⟩) hS (fun q _ h => hFc q h) hFc (fun u_3 t H1 locs ht hvm hw hB hz1 hk1 hS => ?_)
  obtain ⟨hP1, hD1⟩ := hB
  rw [ht] at hP1
  obtain ⟨hP, hD⟩ := va_join (wr := [(h0, .inr (7, [.int 0, .int 0, .int 0, .int 0, .int 0, .int 0, .int 0, .int 0, .int 0, .int 0, .null, .null, .null, .null, .null]))]) (w1 := [(q_1, .inr (4, [.null, .null, .int 0, .int 0, .int 0, .null, .null, .null, .int 0]))]) hP hD [1] [0] rfl rfl (by decide) (by decide +kernel) hk1 hFc hP1 hD1
  generalize H1 = H at hP hS ⊢
  have hP : va_P (dC, dI) vwCl [(h0, .inr (7, [.int 0, .int 0, .int 0, .int 0, .int 0, .int 0, .int 0, .int 0, .int 0, .int 0, .null, .null, .null, .null, .null])), (q_1, .inr (4, [.null, .null, .int 0, .int 0, .int 0, .null, .null, .null, .int 0]))] H := hP
  have hD : va_D A [(h0, .inr (7, [.int 0, .int 0, .int 0, .int 0, .int 0, .int 0, .int 0, .int 0, .int 0, .int 0, .null, .null, .null, .null, .null])), (q_1, .inr (4, [.null, .null, .int 0, .int 0, .int 0, .null, .null, .null, .int 0]))] := hD
  refine W.widen (k := 1) (n := 9) (Nat.le_of_ble_eq_true rfl) (Nat.le_of_ble_eq_true rfl) ?_
  refine va_putF (D := (dC, dI)) (ci := 7) (v := .ref q_1) (ty := .object "ErrandGuild$Kin") (C := RX7) (T := TX7) (N := 15) hx hb hg gb_7 tyX7 tyX7_ok nmX7 hown hK hP hD hS 0 rfl rfl 10 (by decide) (hg _ gm_fieldLink_RX7_12_ErrandGuild_Run_kin_LErrandGuild_Kin_) (fun _ h9 => h9) rfl hin rfl (by decide +kernel) rfl rfl (Nat.le_of_ble_eq_true rfl) dX7_init_12 (fun H locs hP hD hS => ?_)
  have hP : va_P (dC, dI) vwCl [(h0, .inr (7, [.int 0, .int 0, .int 0, .int 0, .int 0, .int 0, .int 0, .int 0, .int 0, .int 0, .ref q_1, .null, .null, .null, .null])), (q_1, .inr (4, [.null, .null, .int 0, .int 0, .int 0, .null, .null, .null, .int 0]))] H := hP
  have hD : va_D A [(h0, .inr (7, [.int 0, .int 0, .int 0, .int 0, .int 0, .int 0, .int 0, .int 0, .int 0, .int 0, .ref q_1, .null, .null, .null, .null])), (q_1, .inr (4, [.null, .null, .int 0, .int 0, .int 0, .null, .null, .null, .int 0]))] := hD
  refine lv_aload_n hx hb dX7_init_15 rfl (lv_at hl 0 rfl) ?_
  refine va_new (ci := 6) (fs := [.null, .null, .null]) (C := RX6) (T := TX6) (N := 3) hx hb hg gb_6 tyX6 tyX6_ok hown (hg _ gm_classLink_RX7_18_RX6) (hg _ gm_instantiable_RX6_3) (hg _ gm_initialized_RX6) hK hP hD hS hA rfl df_X6 (Nat.le_of_ble_eq_true rfl) (Nat.le_of_ble_eq_true rfl) dX7_init_16 (fun q_4 H hP hD hS => ?_)
  have hP : va_P (dC, dI) vwCl [(h0, .inr (7, [.int 0, .int 0, .int 0, .int 0, .int 0, .int 0, .int 0, .int 0, .int 0, .int 0, .ref q_1, .null, .null, .null, .null])), (q_1, .inr (4, [.null, .null, .int 0, .int 0, .int 0, .null, .null, .null, .int 0])), (q_4, .inr (6, [.null, .null, .null]))] H := hP
  have hD : va_D A [(h0, .inr (7, [.int 0, .int 0, .int 0, .int 0, .int 0, .int 0, .int 0, .int 0, .int 0, .int 0, .ref q_1, .null, .null, .null, .null])), (q_1, .inr (4, [.null, .null, .int 0, .int 0, .int 0, .null, .null, .null, .int 0])), (q_4, .inr (6, [.null, .null, .null]))] := hD
  refine W.widen (k := 2) (n := 12) (Nat.le_of_ble_eq_true rfl) (Nat.le_of_ble_eq_true rfl) ?_
  refine lv_dup hx hb dX7_init_19 rfl ?_
  have hPc := hP.sub (ws' := [(q_4, .inr (6, [.null, .null, .null]))]) [2] rfl
  have hDc := hD.sub (ws' := [(q_4, .inr (6, [.null, .null, .null]))]) [2] (by decide) rfl
  have hKc := hK.sub (tys' := []) [] rfl
  have hFc := va_free (wc := [(q_4, .inr (6, [.null, .null, .null]))]) hD hS hA [2] rfl
  refine va_callv (va_runIN (As := []) (rest := [.ref q_4, .ref h0]) ⟨hx, hb, hml, hown, hg⟩ (c_X6_init l dC dI q_4 H.size ) (⟨va_cnB 0 hg (gw_c gm_code_yX6_init_cX6_init_1_none) rfl rfl rfl (nx_RX7_20 hN) (hg _ gm_initialized_RX6) (by decide +kernel) ⟨Nat.le_of_ble_eq_true rfl, Nat.le_of_ble_eq_true rfl⟩, rfl, hg _ gm_instanceMethod_yX6_init⟩) ⟨fun a U g mk q => by obtain ⟨q0, q1, qP, qK, qD, qN⟩ := q; exact ⟨q0, q1, qP, va_K.moved (u := U) (U := U.calling g mk a) (Vm.Alike.refl U.vm) qK, qD, nx_same (u := U) (U := U.calling g mk a) rfl qN⟩, fun U hU hW => ⟨rfl, by rw [hU], by rw [hU]; exact hPc, va_K.moved hW.alike hKc, hDc.weaken (fun _ _ _ _ => trivial), nx_warm hW hN⟩⟩ rfl rfl hl.1 rfl (lv_room (Nat.le_of_ble_eq_true rfl)) dX7_init_20 ⟨Nat.le_of_ble_eq_true rfl, Nat.le_of_ble_eq_true rfl⟩) hS (fun q _ h => hFc q h) hFc (fun u_6 t H1 locs ht hvm hw hB hz1 hk1 hS => ?_)
  obtain ⟨ad_7, ac_8, af_9, ag_10⟩ := u_6
  obtain ⟨hP1, hD1, hK1⟩ := hB
  rw [ht] at hP1
  have hK1 := va_K.moved hvm.symm hK1
  obtain ⟨hP, hD⟩ := va_join (wr := [(h0, .inr (7, [.int 0, .int 0, .int 0, .int 0, .int 0, .int 0, .int 0, .int 0, .int 0, .int 0, .ref q_1, .null, .null, .null, .null])), (q_1, .inr (4, [.null, .null, .int 0, .int 0, .int 0, .null, .null, .null, .int 0]))]) (w1 := [(q_4, .inr (6, [.ref (ad_7 0), .ref (ad_7 1), .ref (ad_7 2)])), ((ad_7 0), .inl ((ac_8 0), 8, .inl (fun _ => 0))), ((ad_7 2), .inl ((ac_8 2), 8, .inl (fun _ => 0)))]) hP hD [2] [0, 1] rfl rfl (by decide) (by decide +kernel) hk1 hFc hP1 hD1
  have hK := hK.app hK1
  generalize H1 = H at hP hS ⊢
  have hK : va_K (dC, dI) vwCl [((ac_8 0), .boolean), ((ac_8 2), .int)] s := hK
  have hP : va_P (dC, dI) vwCl [(h0, .inr (7, [.int 0, .int 0, .int 0, .int 0, .int 0, .int 0, .int 0, .int 0, .int 0, .int 0, .ref q_1, .null, .null, .null, .null])), (q_1, .inr (4, [.null, .null, .int 0, .int 0, .int 0, .null, .null, .null, .int 0])), (q_4, .inr (6, [.ref (ad_7 0), .ref (ad_7 1), .ref (ad_7 2)])), ((ad_7 0), .inl ((ac_8 0), 8, .inl (fun _ => 0))), ((ad_7 2), .inl ((ac_8 2), 8, .inl (fun _ => 0)))] H := hP
  have hD : va_D A [(h0, .inr (7, [.int 0, .int 0, .int 0, .int 0, .int 0, .int 0, .int 0, .int 0, .int 0, .int 0, .ref q_1, .null, .null, .null, .null])), (q_1, .inr (4, [.null, .null, .int 0, .int 0, .int 0, .null, .null, .null, .int 0])), (q_4, .inr (6, [.ref (ad_7 0), .ref (ad_7 1), .ref (ad_7 2)])), ((ad_7 0), .inl ((ac_8 0), 8, .inl (fun _ => 0))), ((ad_7 2), .inl ((ac_8 2), 8, .inl (fun _ => 0)))] := hD
  refine W.widen (k := 5) (n := 36) (Nat.le_of_ble_eq_true rfl) (Nat.le_of_ble_eq_true rfl) ?_
  refine va_putF (D := (dC, dI)) (ci := 7) (v := .ref q_4) (ty := .object "ErrandGuild$Memory") (C := RX7) (T := TX7) (N := 15) hx hb hg gb_7 tyX7 tyX7_ok nmX7 hown hK hP hD hS 0 rfl rfl 11 (by decide) (hg _ gm_fieldLink_RX7_21_ErrandGuild_Run_memory_LErrandGuild_Memory_) (fun _ h9 => h9) rfl hin rfl (by decide +kernel) rfl rfl (Nat.le_of_ble_eq_true rfl) dX7_init_23 (fun H locs hP hD hS => ?_)
  have hP : va_P (dC, dI) vwCl [(h0, .inr (7, [.int 0, .int 0, .int 0, .int 0, .int 0, .int 0, .int 0, .int 0, .int 0, .int 0, .ref q_1, .ref q_4, .null, .null, .null])), (q_1, .inr (4, [.null, .null, .int 0, .int 0, .int 0, .null, .null, .null, .int 0])), (q_4, .inr (6, [.ref (ad_7 0), .ref (ad_7 1), .ref (ad_7 2)])), ((ad_7 0), .inl ((ac_8 0), 8, .inl (fun _ => 0))), ((ad_7 2), .inl ((ac_8 2), 8, .inl (fun _ => 0)))] H := hP
  have hD : va_D A [(h0, .inr (7, [.int 0, .int 0, .int 0, .int 0, .int 0, .int 0, .int 0, .int 0, .int 0, .int 0, .ref q_1, .ref q_4, .null, .null, .null])), (q_1, .inr (4, [.null, .null, .int 0, .int 0, .int 0, .null, .null, .null, .int 0])), (q_4, .inr (6, [.ref (ad_7 0), .ref (ad_7 1), .ref (ad_7 2)])), ((ad_7 0), .inl ((ac_8 0), 8, .inl (fun _ => 0))), ((ad_7 2), .inl ((ac_8 2), 8, .inl (fun _ => 0)))] := hD
  refine lv_aload_n hx hb dX7_init_26 rfl (lv_at hl 0 rfl) ?_
  refine va_new (ci := 8) (fs := [.null, .null, .null, .int 0, .null, .null, .null, .int 0, .int 0]) (C := RX8) (T := TX8) (N := 9) hx hb hg gb_8 tyX8 tyX8_ok hown (hg _ gm_classLink_RX7_25_RX8) (hg _ gm_instantiable_RX8_9) (hg _ gm_initialized_RX8) hK hP hD hS hA rfl df_X8 (Nat.le_of_ble_eq_true rfl) (Nat.le_of_ble_eq_true rfl) dX7_init_27 (fun q_11 H hP hD hS => ?_)
  have hP : va_P (dC, dI) vwCl [(h0, .inr (7, [.int 0, .int 0, .int 0, .int 0, .int 0, .int 0, .int 0, .int 0, .int 0, .int 0, .ref q_1, .ref q_4, .null, .null, .null])), (q_1, .inr (4, [.null, .null, .int 0, .int 0, .int 0, .null, .null, .null, .int 0])), (q_4, .inr (6, [.ref (ad_7 0), .ref (ad_7 1), .ref (ad_7 2)])), ((ad_7 0), .inl ((ac_8 0), 8, .inl (fun _ => 0))), ((ad_7 2), .inl ((ac_8 2), 8, .inl (fun _ => 0))), (q_11, .inr (8, [.null, .null, .null, .int 0, .null, .null, .null, .int 0, .int 0]))] H := hP
  have hD : va_D A [(h0, .inr (7, [.int 0, .int 0, .int 0, .int 0, .int 0, .int 0, .int 0, .int 0, .int 0, .int 0, .ref q_1, .ref q_4, .null, .null, .null])), (q_1, .inr (4, [.null, .null, .int 0, .int 0, .int 0, .null, .null, .null, .int 0])), (q_4, .inr (6, [.ref (ad_7 0), .ref (ad_7 1), .ref (ad_7 2)])), ((ad_7 0), .inl ((ac_8 0), 8, .inl (fun _ => 0))), ((ad_7 2), .inl ((ac_8 2), 8, .inl (fun _ => 0))), (q_11, .inr (8, [.null, .null, .null, .int 0, .null, .null, .null, .int 0, .int 0]))] := hD
  refine W.widen (k := 6) (n := 45) (Nat.le_of_ble_eq_true rfl) (Nat.le_of_ble_eq_true rfl) ?_
  refine lv_dup hx hb dX7_init_30 rfl ?_
  have hPc := hP.sub (ws' := [(q_11, .inr (8, [.null, .null, .null, .int 0, .null, .null, .null, .int 0, .int 0]))]) [5] rfl
  have hDc := hD.sub (ws' := [(q_11, .inr (8, [.null, .null, .null, .int 0, .null, .null, .null, .int 0, .int 0]))]) [5] (by decide) rfl
  have hKc := hK.sub (tys' := []) [] rfl
  have hFc := va_free (wc := [(q_11, .inr (8, [.null, .null, .null, .int 0, .null, .null, .null, .int 0, .int 0]))]) hD hS hA [5] rfl
  refine va_callv (va_runIN (As := []) (rest := [.ref q_11, .ref h0]) ⟨hx, hb, hml, hown, hg⟩ (c_X8_init l dC dI q_11 H.size ) (⟨va_cnB 0 hg (gw_c gm_code_yX8_init_cX8_init_1_none) rfl rfl rfl (nx_RX7_27 hN) (hg _ gm_initialized_RX8) (by decide +kernel) ⟨Nat.le_of_ble_eq_true rfl, Nat.le_of_ble_eq_true rfl⟩, rfl, hg _ gm_instanceMethod_yX8_init⟩) ⟨fun a U g mk q => by obtain ⟨q0, q1, qP, qK, qD, qN⟩ := q; exact ⟨q0, q1, qP, va_K.moved (u := U) (U := U.calling g mk a) (Vm.Alike.refl U.vm) qK, qD, nx_same (u := U) (U := U.calling g mk a) rfl qN⟩, fun U hU hW => ⟨rfl, by rw [hU], by rw [hU]; exact hPc, va_K.moved hW.alike hKc, hDc.weaken (fun _ _ _ _ => trivial), nx_warm hW hN⟩⟩ rfl rfl hl.1 rfl (lv_room (Nat.le_of_ble_eq_true rfl)) dX7_init_31 ⟨Nat.le_of_ble_eq_true rfl, Nat.le_of_ble_eq_true rfl⟩) hS (fun q _ h => hFc q h) hFc (fun u_13 t H1 locs ht hvm hw hB hz1 hk1 hS => ?_)
  obtain ⟨ad_14, ac_15, af_16, ag_17⟩ := u_13
  obtain ⟨hP1, hD1, hK1⟩ := hB
  rw [ht] at hP1
  have hK1 := va_K.moved hvm.symm hK1
  obtain ⟨hP, hD⟩ := va_join (wr := [(h0, .inr (7, [.int 0, .int 0, .int 0, .int 0, .int 0, .int 0, .int 0, .int 0, .int 0, .int 0, .ref q_1, .ref q_4, .null, .null, .null])), (q_1, .inr (4, [.null, .null, .int 0, .int 0, .int 0, .null, .null, .null, .int 0])), (q_4, .inr (6, [.ref (ad_7 0), .ref (ad_7 1), .ref (ad_7 2)])), ((ad_7 0), .inl ((ac_8 0), 8, .inl (fun _ => 0))), ((ad_7 2), .inl ((ac_8 2), 8, .inl (fun _ => 0)))]) (w1 := [(q_11, .inr (8, [.ref (ad_14 0), .ref (ad_14 1), .ref (ad_14 2), .int 0, .ref (ad_14 3), .ref (ad_14 4), .ref (ad_14 5), .int 0, .int 0]))]) hP hD [5] [0, 1, 2, 3, 4] rfl rfl (by decide) (by decide +kernel) hk1 hFc hP1 hD1
  generalize H1 = H at hP hS ⊢
  have hP : va_P (dC, dI) vwCl [(h0, .inr (7, [.int 0, .int 0, .int 0, .int 0, .int 0, .int 0, .int 0, .int 0, .int 0, .int 0, .ref q_1, .ref q_4, .null, .null, .null])), (q_1, .inr (4, [.null, .null, .int 0, .int 0, .int 0, .null, .null, .null, .int 0])), (q_4, .inr (6, [.ref (ad_7 0), .ref (ad_7 1), .ref (ad_7 2)])), ((ad_7 0), .inl ((ac_8 0), 8, .inl (fun _ => 0))), ((ad_7 2), .inl ((ac_8 2), 8, .inl (fun _ => 0))), (q_11, .inr (8, [.ref (ad_14 0), .ref (ad_14 1), .ref (ad_14 2), .int 0, .ref (ad_14 3), .ref (ad_14 4), .ref (ad_14 5), .int 0, .int 0]))] H := hP
  have hD : va_D A [(h0, .inr (7, [.int 0, .int 0, .int 0, .int 0, .int 0, .int 0, .int 0, .int 0, .int 0, .int 0, .ref q_1, .ref q_4, .null, .null, .null])), (q_1, .inr (4, [.null, .null, .int 0, .int 0, .int 0, .null, .null, .null, .int 0])), (q_4, .inr (6, [.ref (ad_7 0), .ref (ad_7 1), .ref (ad_7 2)])), ((ad_7 0), .inl ((ac_8 0), 8, .inl (fun _ => 0))), ((ad_7 2), .inl ((ac_8 2), 8, .inl (fun _ => 0))), (q_11, .inr (8, [.ref (ad_14 0), .ref (ad_14 1), .ref (ad_14 2), .int 0, .ref (ad_14 3), .ref (ad_14 4), .ref (ad_14 5), .int 0, .int 0]))] := hD
  refine W.widen (k := 12) (n := 189) (Nat.le_of_ble_eq_true rfl) (Nat.le_of_ble_eq_true rfl) ?_
  refine va_putF (D := (dC, dI)) (ci := 7) (v := .ref q_11) (ty := .object "ErrandGuild$Scopes") (C := RX7) (T := TX7) (N := 15) hx hb hg gb_7 tyX7 tyX7_ok nmX7 hown hK hP hD hS 0 rfl rfl 12 (by decide) (hg _ gm_fieldLink_RX7_28_ErrandGuild_Run_scopes_LErrandGuild_Scopes_) (fun _ h9 => h9) rfl hin rfl (by decide +kernel) rfl rfl (Nat.le_of_ble_eq_true rfl) dX7_init_34 (fun H locs hP hD hS => ?_)
  have hP : va_P (dC, dI) vwCl [(h0, .inr (7, [.int 0, .int 0, .int 0, .int 0, .int 0, .int 0, .int 0, .int 0, .int 0, .int 0, .ref q_1, .ref q_4, .ref q_11, .null, .null])), (q_1, .inr (4, [.null, .null, .int 0, .int 0, .int 0, .null, .null, .null, .int 0])), (q_4, .inr (6, [.ref (ad_7 0), .ref (ad_7 1), .ref (ad_7 2)])), ((ad_7 0), .inl ((ac_8 0), 8, .inl (fun _ => 0))), ((ad_7 2), .inl ((ac_8 2), 8, .inl (fun _ => 0))), (q_11, .inr (8, [.ref (ad_14 0), .ref (ad_14 1), .ref (ad_14 2), .int 0, .ref (ad_14 3), .ref (ad_14 4), .ref (ad_14 5), .int 0, .int 0]))] H := hP
  have hD : va_D A [(h0, .inr (7, [.int 0, .int 0, .int 0, .int 0, .int 0, .int 0, .int 0, .int 0, .int 0, .int 0, .ref q_1, .ref q_4, .ref q_11, .null, .null])), (q_1, .inr (4, [.null, .null, .int 0, .int 0, .int 0, .null, .null, .null, .int 0])), (q_4, .inr (6, [.ref (ad_7 0), .ref (ad_7 1), .ref (ad_7 2)])), ((ad_7 0), .inl ((ac_8 0), 8, .inl (fun _ => 0))), ((ad_7 2), .inl ((ac_8 2), 8, .inl (fun _ => 0))), (q_11, .inr (8, [.ref (ad_14 0), .ref (ad_14 1), .ref (ad_14 2), .int 0, .ref (ad_14 3), .ref (ad_14 4), .ref (ad_14 5), .int 0, .int 0]))] := hD
  refine lv_aload_n hx hb dX7_init_37 rfl (lv_at hl 0 rfl) ?_
  refine va_new (ci := 2) (fs := [.int 0, .int 0, .int 0, .int 0, .int 0]) (C := RX2) (T := TX2) (N := 5) hx hb hg gb_2 tyX2 tyX2_ok hown (hg _ gm_classLink_RX7_32_RX2) (hg _ gm_instantiable_RX2_5) (hg _ gm_initialized_RX2) hK hP hD hS hA rfl df_X2 (Nat.le_of_ble_eq_true rfl) (Nat.le_of_ble_eq_true rfl) dX7_init_38 (fun q_18 H hP hD hS => ?_)
  have hP : va_P (dC, dI) vwCl [(h0, .inr (7, [.int 0, .int 0, .int 0, .int 0, .int 0, .int 0, .int 0, .int 0, .int 0, .int 0, .ref q_1, .ref q_4, .ref q_11, .null, .null])), (q_1, .inr (4, [.null, .null, .int 0, .int 0, .int 0, .null, .null, .null, .int 0])), (q_4, .inr (6, [.ref (ad_7 0), .ref (ad_7 1), .ref (ad_7 2)])), ((ad_7 0), .inl ((ac_8 0), 8, .inl (fun _ => 0))), ((ad_7 2), .inl ((ac_8 2), 8, .inl (fun _ => 0))), (q_11, .inr (8, [.ref (ad_14 0), .ref (ad_14 1), .ref (ad_14 2), .int 0, .ref (ad_14 3), .ref (ad_14 4), .ref (ad_14 5), .int 0, .int 0])), (q_18, .inr (2, [.int 0, .int 0, .int 0, .int 0, .int 0]))] H := hP
  have hD : va_D A [(h0, .inr (7, [.int 0, .int 0, .int 0, .int 0, .int 0, .int 0, .int 0, .int 0, .int 0, .int 0, .ref q_1, .ref q_4, .ref q_11, .null, .null])), (q_1, .inr (4, [.null, .null, .int 0, .int 0, .int 0, .null, .null, .null, .int 0])), (q_4, .inr (6, [.ref (ad_7 0), .ref (ad_7 1), .ref (ad_7 2)])), ((ad_7 0), .inl ((ac_8 0), 8, .inl (fun _ => 0))), ((ad_7 2), .inl ((ac_8 2), 8, .inl (fun _ => 0))), (q_11, .inr (8, [.ref (ad_14 0), .ref (ad_14 1), .ref (ad_14 2), .int 0, .ref (ad_14 3), .ref (ad_14 4), .ref (ad_14 5), .int 0, .int 0])), (q_18, .inr (2, [.int 0, .int 0, .int 0, .int 0, .int 0]))] := hD
  refine W.widen (k := 13) (n := 194) (Nat.le_of_ble_eq_true rfl) (Nat.le_of_ble_eq_true rfl) ?_
  refine lv_dup hx hb dX7_init_41 rfl ?_
  have hPc := hP.sub (ws' := [(q_18, .inr (2, [.int 0, .int 0, .int 0, .int 0, .int 0]))]) [6] rfl
  have hDc := hD.sub (ws' := [(q_18, .inr (2, [.int 0, .int 0, .int 0, .int 0, .int 0]))]) [6] (by decide) rfl
  have hKc := hK.sub (tys' := []) [] rfl
  have hFc := va_free (wc := [(q_18, .inr (2, [.int 0, .int 0, .int 0, .int 0, .int 0]))]) hD hS hA [6] rfl
  refine va_callv (va_runIN (As := []) (rest := [.ref q_18, .ref h0]) ⟨hx, hb, hml, hown, hg⟩ (c_X2_init l dC dI q_18 H.size ) (⟨va_cnB 0 hg (gw_c gm_code_yX2_init_cX2_init_1_none) rfl rfl rfl (nx_RX7_34 hN) (hg _ gm_initialized_RX2) (by decide +kernel) ⟨Nat.le_of_ble_eq_true rfl, Nat.le_of_ble_eq_true rfl⟩, rfl, hg _ gm_instanceMethod_yX2_init⟩) ⟨fun a U g mk q => by obtain ⟨q0, q1, qP, qK, qD, qN⟩ := q; exact ⟨q0, q1, qP, va_K.moved (u := U) (U := U.calling g mk a) (Vm.Alike.refl U.vm) qK, qD, nx_same (u := U) (U := U.calling g mk a) rfl qN⟩, fun U hU hW => ⟨rfl, by rw [hU], by rw [hU]; exact hPc, va_K.moved hW.alike hKc, hDc.weaken (fun _ _ _ _ => trivial), nx_warm hW hN⟩⟩ rfl rfl hl.1 rfl (lv_room (Nat.le_of_ble_eq_true rfl)) dX7_init_42 ⟨Nat.le_of_ble_eq_true rfl, Nat.le_of_ble_eq_true rfl⟩) hS (fun q _ h => hFc q h) hFc (fun u_20 t H1 locs ht hvm hw hB hz1 hk1 hS => ?_)
  obtain ⟨hP1, hD1⟩ := hB
  rw [ht] at hP1
  obtain ⟨hP, hD⟩ := va_join (wr := [(h0, .inr (7, [.int 0, .int 0, .int 0, .int 0, .int 0, .int 0, .int 0, .int 0, .int 0, .int 0, .ref q_1, .ref q_4, .ref q_11, .null, .null])), (q_1, .inr (4, [.null, .null, .int 0, .int 0, .int 0, .null, .null, .null, .int 0])), (q_4, .inr (6, [.ref (ad_7 0), .ref (ad_7 1), .ref (ad_7 2)])), ((ad_7 0), .inl ((ac_8 0), 8, .inl (fun _ => 0))), ((ad_7 2), .inl ((ac_8 2), 8, .inl (fun _ => 0))), (q_11, .inr (8, [.ref (ad_14 0), .ref (ad_14 1), .ref (ad_14 2), .int 0, .ref (ad_14 3), .ref (ad_14 4), .ref (ad_14 5), .int 0, .int 0]))]) (w1 := [(q_18, .inr (2, [.int 0, .int 0, .int 0, .int 0, .int 0]))]) hP hD [6] [0, 1, 2, 3, 4, 5] rfl rfl (by decide) (by decide +kernel) hk1 hFc hP1 hD1
  generalize H1 = H at hP hS ⊢
  have hP : va_P (dC, dI) vwCl [(h0, .inr (7, [.int 0, .int 0, .int 0, .int 0, .int 0, .int 0, .int 0, .int 0, .int 0, .int 0, .ref q_1, .ref q_4, .ref q_11, .null, .null])), (q_1, .inr (4, [.null, .null, .int 0, .int 0, .int 0, .null, .null, .null, .int 0])), (q_4, .inr (6, [.ref (ad_7 0), .ref (ad_7 1), .ref (ad_7 2)])), ((ad_7 0), .inl ((ac_8 0), 8, .inl (fun _ => 0))), ((ad_7 2), .inl ((ac_8 2), 8, .inl (fun _ => 0))), (q_11, .inr (8, [.ref (ad_14 0), .ref (ad_14 1), .ref (ad_14 2), .int 0, .ref (ad_14 3), .ref (ad_14 4), .ref (ad_14 5), .int 0, .int 0])), (q_18, .inr (2, [.int 0, .int 0, .int 0, .int 0, .int 0]))] H := hP
  have hD : va_D A [(h0, .inr (7, [.int 0, .int 0, .int 0, .int 0, .int 0, .int 0, .int 0, .int 0, .int 0, .int 0, .ref q_1, .ref q_4, .ref q_11, .null, .null])), (q_1, .inr (4, [.null, .null, .int 0, .int 0, .int 0, .null, .null, .null, .int 0])), (q_4, .inr (6, [.ref (ad_7 0), .ref (ad_7 1), .ref (ad_7 2)])), ((ad_7 0), .inl ((ac_8 0), 8, .inl (fun _ => 0))), ((ad_7 2), .inl ((ac_8 2), 8, .inl (fun _ => 0))), (q_11, .inr (8, [.ref (ad_14 0), .ref (ad_14 1), .ref (ad_14 2), .int 0, .ref (ad_14 3), .ref (ad_14 4), .ref (ad_14 5), .int 0, .int 0])), (q_18, .inr (2, [.int 0, .int 0, .int 0, .int 0, .int 0]))] := hD
  refine W.widen (k := 13) (n := 194) (Nat.le_of_ble_eq_true rfl) (Nat.le_of_ble_eq_true rfl) ?_
  refine va_putF (D := (dC, dI)) (ci := 7) (v := .ref q_18) (ty := .object "ErrandGuild$Fault") (C := RX7) (T := TX7) (N := 15) hx hb hg gb_7 tyX7 tyX7_ok nmX7 hown hK hP hD hS 0 rfl rfl 13 (by decide) (hg _ gm_fieldLink_RX7_35_ErrandGuild_Run_fault_LErrandGuild_Fault_) (fun _ h9 => h9) rfl hin rfl (by decide +kernel) rfl rfl (Nat.le_of_ble_eq_true rfl) dX7_init_45 (fun H locs hP hD hS => ?_)
  have hP : va_P (dC, dI) vwCl [(h0, .inr (7, [.int 0, .int 0, .int 0, .int 0, .int 0, .int 0, .int 0, .int 0, .int 0, .int 0, .ref q_1, .ref q_4, .ref q_11, .ref q_18, .null])), (q_1, .inr (4, [.null, .null, .int 0, .int 0, .int 0, .null, .null, .null, .int 0])), (q_4, .inr (6, [.ref (ad_7 0), .ref (ad_7 1), .ref (ad_7 2)])), ((ad_7 0), .inl ((ac_8 0), 8, .inl (fun _ => 0))), ((ad_7 2), .inl ((ac_8 2), 8, .inl (fun _ => 0))), (q_11, .inr (8, [.ref (ad_14 0), .ref (ad_14 1), .ref (ad_14 2), .int 0, .ref (ad_14 3), .ref (ad_14 4), .ref (ad_14 5), .int 0, .int 0])), (q_18, .inr (2, [.int 0, .int 0, .int 0, .int 0, .int 0]))] H := hP
  have hD : va_D A [(h0, .inr (7, [.int 0, .int 0, .int 0, .int 0, .int 0, .int 0, .int 0, .int 0, .int 0, .int 0, .ref q_1, .ref q_4, .ref q_11, .ref q_18, .null])), (q_1, .inr (4, [.null, .null, .int 0, .int 0, .int 0, .null, .null, .null, .int 0])), (q_4, .inr (6, [.ref (ad_7 0), .ref (ad_7 1), .ref (ad_7 2)])), ((ad_7 0), .inl ((ac_8 0), 8, .inl (fun _ => 0))), ((ad_7 2), .inl ((ac_8 2), 8, .inl (fun _ => 0))), (q_11, .inr (8, [.ref (ad_14 0), .ref (ad_14 1), .ref (ad_14 2), .int 0, .ref (ad_14 3), .ref (ad_14 4), .ref (ad_14 5), .int 0, .int 0])), (q_18, .inr (2, [.int 0, .int 0, .int 0, .int 0, .int 0]))] := hD
  refine lv_aload_n hx hb dX7_init_48 rfl (lv_at hl 0 rfl) ?_
  refine va_new (ci := 0) (fs := [.int 0, .null, .int 0]) (C := RX0) (T := TX0) (N := 3) hx hb hg gb_0 tyX0 tyX0_ok hown (hg _ gm_classLink_RX7_39_RX0) (hg _ gm_instantiable_RX0_3) (hg _ gm_initialized_RX0) hK hP hD hS hA rfl df_X0 (Nat.le_of_ble_eq_true rfl) (Nat.le_of_ble_eq_true rfl) dX7_init_49 (fun q_21 H hP hD hS => ?_)
  have hP : va_P (dC, dI) vwCl [(h0, .inr (7, [.int 0, .int 0, .int 0, .int 0, .int 0, .int 0, .int 0, .int 0, .int 0, .int 0, .ref q_1, .ref q_4, .ref q_11, .ref q_18, .null])), (q_1, .inr (4, [.null, .null, .int 0, .int 0, .int 0, .null, .null, .null, .int 0])), (q_4, .inr (6, [.ref (ad_7 0), .ref (ad_7 1), .ref (ad_7 2)])), ((ad_7 0), .inl ((ac_8 0), 8, .inl (fun _ => 0))), ((ad_7 2), .inl ((ac_8 2), 8, .inl (fun _ => 0))), (q_11, .inr (8, [.ref (ad_14 0), .ref (ad_14 1), .ref (ad_14 2), .int 0, .ref (ad_14 3), .ref (ad_14 4), .ref (ad_14 5), .int 0, .int 0])), (q_18, .inr (2, [.int 0, .int 0, .int 0, .int 0, .int 0])), (q_21, .inr (0, [.int 0, .null, .int 0]))] H := hP
  have hD : va_D A [(h0, .inr (7, [.int 0, .int 0, .int 0, .int 0, .int 0, .int 0, .int 0, .int 0, .int 0, .int 0, .ref q_1, .ref q_4, .ref q_11, .ref q_18, .null])), (q_1, .inr (4, [.null, .null, .int 0, .int 0, .int 0, .null, .null, .null, .int 0])), (q_4, .inr (6, [.ref (ad_7 0), .ref (ad_7 1), .ref (ad_7 2)])), ((ad_7 0), .inl ((ac_8 0), 8, .inl (fun _ => 0))), ((ad_7 2), .inl ((ac_8 2), 8, .inl (fun _ => 0))), (q_11, .inr (8, [.ref (ad_14 0), .ref (ad_14 1), .ref (ad_14 2), .int 0, .ref (ad_14 3), .ref (ad_14 4), .ref (ad_14 5), .int 0, .int 0])), (q_18, .inr (2, [.int 0, .int 0, .int 0, .int 0, .int 0])), (q_21, .inr (0, [.int 0, .null, .int 0]))] := hD
  refine W.widen (k := 14) (n := 197) (Nat.le_of_ble_eq_true rfl) (Nat.le_of_ble_eq_true rfl) ?_
  refine lv_dup hx hb dX7_init_52 rfl ?_
  refine lv_ldc (v := 1048576) hx hb hown (hg _ gm_constant_RX7_41_1048576_) dX7_init_53 ?_
  have hPc := hP.sub (ws' := [(q_21, .inr (0, [.int 0, .null, .int 0]))]) [7] rfl
  have hDc := hD.sub (ws' := [(q_21, .inr (0, [.int 0, .null, .int 0]))]) [7] (by decide) rfl
  have hKc := hK.sub (tys' := []) [] rfl
  have hFc := va_free (wc := [(q_21, .inr (0, [.int 0, .null, .int 0]))]) hD hS hA [7] rfl
  refine va_callv (va_runI (As := [.int 1048576]) (rest := [.ref q_21, .ref h0]) ⟨hx, hb, hml, hown, hg⟩ (c_X0_init l dC dI q_21 1048576 H.size ) (cwI 1 hg (gw_c gm_code_yX0_init_cX0_init_2_none) rfl rfl rfl (hg _ gm_initialized_RX0) (hg _ gm_methodLink_RX7_42_yX0_init) (hg _ gm_instanceMethod_yX0_init) rfl (by decide +kernel) ⟨Nat.le_of_ble_eq_true rfl, Nat.le_of_ble_eq_true rfl⟩) ⟨fun a U g mk q => by obtain ⟨q0, q1, qP, qK, qD, qN⟩ := q; exact ⟨q0, q1, qP, va_K.moved (u := U) (U := U.calling g mk a) (Vm.Alike.refl U.vm) qK, qD, nx_same (u := U) (U := U.calling g mk a) rfl qN⟩, fun U hU hW => ⟨rfl, by rw [hU], by rw [hU]; exact hPc, va_K.moved hW.alike hKc, hDc.weaken (fun _ _ _ _ => trivial), nx_warm hW hN⟩⟩ rfl rfl hl.1 rfl (lv_room (Nat.le_of_ble_eq_true rfl)) dX7_init_55 ⟨Nat.le_of_ble_eq_true rfl, Nat.le_of_ble_eq_true rfl⟩) hS (fun q _ h => hFc q h) hFc (fun u_23 t H1 locs ht hvm hw hB hz1 hk1 hS => ?_)
  obtain ⟨ad_24, ac_25, af_26, ag_27⟩ := u_23
  obtain ⟨hP1, hD1, hK1⟩ := hB
  rw [ht] at hP1
  have hK1 := va_K.moved hvm.symm hK1
  obtain ⟨hP, hD⟩ := va_join (wr := [(h0, .inr (7, [.int 0, .int 0, .int 0, .int 0, .int 0, .int 0, .int 0, .int 0, .int 0, .int 0, .ref q_1, .ref q_4, .ref q_11, .ref q_18, .null])), (q_1, .inr (4, [.null, .null, .int 0, .int 0, .int 0, .null, .null, .null, .int 0])), (q_4, .inr (6, [.ref (ad_7 0), .ref (ad_7 1), .ref (ad_7 2)])), ((ad_7 0), .inl ((ac_8 0), 8, .inl (fun _ => 0))), ((ad_7 2), .inl ((ac_8 2), 8, .inl (fun _ => 0))), (q_11, .inr (8, [.ref (ad_14 0), .ref (ad_14 1), .ref (ad_14 2), .int 0, .ref (ad_14 3), .ref (ad_14 4), .ref (ad_14 5), .int 0, .int 0])), (q_18, .inr (2, [.int 0, .int 0, .int 0, .int 0, .int 0]))]) (w1 := [(q_21, .inr (0, [.int 1048576, .ref (ad_24 0), .int 0]))]) hP hD [7] [0, 1, 2, 3, 4, 5, 6] rfl rfl (by decide) (by decide +kernel) hk1 hFc hP1 hD1
  generalize H1 = H at hP hS ⊢
  have hP : va_P (dC, dI) vwCl [(h0, .inr (7, [.int 0, .int 0, .int 0, .int 0, .int 0, .int 0, .int 0, .int 0, .int 0, .int 0, .ref q_1, .ref q_4, .ref q_11, .ref q_18, .null])), (q_1, .inr (4, [.null, .null, .int 0, .int 0, .int 0, .null, .null, .null, .int 0])), (q_4, .inr (6, [.ref (ad_7 0), .ref (ad_7 1), .ref (ad_7 2)])), ((ad_7 0), .inl ((ac_8 0), 8, .inl (fun _ => 0))), ((ad_7 2), .inl ((ac_8 2), 8, .inl (fun _ => 0))), (q_11, .inr (8, [.ref (ad_14 0), .ref (ad_14 1), .ref (ad_14 2), .int 0, .ref (ad_14 3), .ref (ad_14 4), .ref (ad_14 5), .int 0, .int 0])), (q_18, .inr (2, [.int 0, .int 0, .int 0, .int 0, .int 0])), (q_21, .inr (0, [.int 1048576, .ref (ad_24 0), .int 0]))] H := hP
  have hD : va_D A [(h0, .inr (7, [.int 0, .int 0, .int 0, .int 0, .int 0, .int 0, .int 0, .int 0, .int 0, .int 0, .ref q_1, .ref q_4, .ref q_11, .ref q_18, .null])), (q_1, .inr (4, [.null, .null, .int 0, .int 0, .int 0, .null, .null, .null, .int 0])), (q_4, .inr (6, [.ref (ad_7 0), .ref (ad_7 1), .ref (ad_7 2)])), ((ad_7 0), .inl ((ac_8 0), 8, .inl (fun _ => 0))), ((ad_7 2), .inl ((ac_8 2), 8, .inl (fun _ => 0))), (q_11, .inr (8, [.ref (ad_14 0), .ref (ad_14 1), .ref (ad_14 2), .int 0, .ref (ad_14 3), .ref (ad_14 4), .ref (ad_14 5), .int 0, .int 0])), (q_18, .inr (2, [.int 0, .int 0, .int 0, .int 0, .int 0])), (q_21, .inr (0, [.int 1048576, .ref (ad_24 0), .int 0]))] := hD
  refine W.widen (k := 15) (n := 213) (Nat.le_of_ble_eq_true rfl) (Nat.le_of_ble_eq_true rfl) ?_
  refine va_putF (D := (dC, dI)) (ci := 7) (v := .ref q_21) (ty := .object "ErrandGuild$Cells") (C := RX7) (T := TX7) (N := 15) hx hb hg gb_7 tyX7 tyX7_ok nmX7 hown hK hP hD hS 0 rfl rfl 14 (by decide) (hg _ gm_fieldLink_RX7_45_ErrandGuild_Run_remarks_LErrandGuild_Cells_) (fun _ h9 => h9) rfl hin rfl (by decide +kernel) rfl rfl (Nat.le_of_ble_eq_true rfl) dX7_init_58 (fun H locs hP hD hS => ?_)
  have hP : va_P (dC, dI) vwCl [(h0, .inr (7, [.int 0, .int 0, .int 0, .int 0, .int 0, .int 0, .int 0, .int 0, .int 0, .int 0, .ref q_1, .ref q_4, .ref q_11, .ref q_18, .ref q_21])), (q_1, .inr (4, [.null, .null, .int 0, .int 0, .int 0, .null, .null, .null, .int 0])), (q_4, .inr (6, [.ref (ad_7 0), .ref (ad_7 1), .ref (ad_7 2)])), ((ad_7 0), .inl ((ac_8 0), 8, .inl (fun _ => 0))), ((ad_7 2), .inl ((ac_8 2), 8, .inl (fun _ => 0))), (q_11, .inr (8, [.ref (ad_14 0), .ref (ad_14 1), .ref (ad_14 2), .int 0, .ref (ad_14 3), .ref (ad_14 4), .ref (ad_14 5), .int 0, .int 0])), (q_18, .inr (2, [.int 0, .int 0, .int 0, .int 0, .int 0])), (q_21, .inr (0, [.int 1048576, .ref (ad_24 0), .int 0]))] H := hP
  have hD : va_D A [(h0, .inr (7, [.int 0, .int 0, .int 0, .int 0, .int 0, .int 0, .int 0, .int 0, .int 0, .int 0, .ref q_1, .ref q_4, .ref q_11, .ref q_18, .ref q_21])), (q_1, .inr (4, [.null, .null, .int 0, .int 0, .int 0, .null, .null, .null, .int 0])), (q_4, .inr (6, [.ref (ad_7 0), .ref (ad_7 1), .ref (ad_7 2)])), ((ad_7 0), .inl ((ac_8 0), 8, .inl (fun _ => 0))), ((ad_7 2), .inl ((ac_8 2), 8, .inl (fun _ => 0))), (q_11, .inr (8, [.ref (ad_14 0), .ref (ad_14 1), .ref (ad_14 2), .int 0, .ref (ad_14 3), .ref (ad_14 4), .ref (ad_14 5), .int 0, .int 0])), (q_18, .inr (2, [.int 0, .int 0, .int 0, .int 0, .int 0])), (q_21, .inr (0, [.int 1048576, .ref (ad_24 0), .int 0]))] := hD
  refine lv_aload_n hx hb dX7_init_61 rfl (lv_at hl 0 rfl) ?_
  refine lv_iload_n hx hb dX7_init_62 rfl (lv_at hl 1 rfl) ?_
  refine va_putF (D := (dC, dI)) (ci := 7) (v := .int v1) (ty := .int) (C := RX7) (T := TX7) (N := 15) hx hb hg gb_7 tyX7 tyX7_ok nmX7 hown hK hP hD hS 0 rfl rfl 0 (by decide) (hg _ gm_fieldLink_RX7_49_ErrandGuild_Run_number_I_) (fun _ h9 => h9) rfl hin rfl (by decide +kernel) rfl rfl (Nat.le_of_ble_eq_true rfl) dX7_init_63 (fun H locs hP hD hS => ?_)
  have hP : va_P (dC, dI) vwCl [(h0, .inr (7, [.int v1, .int 0, .int 0, .int 0, .int 0, .int 0, .int 0, .int 0, .int 0, .int 0, .ref q_1, .ref q_4, .ref q_11, .ref q_18, .ref q_21])), (q_1, .inr (4, [.null, .null, .int 0, .int 0, .int 0, .null, .null, .null, .int 0])), (q_4, .inr (6, [.ref (ad_7 0), .ref (ad_7 1), .ref (ad_7 2)])), ((ad_7 0), .inl ((ac_8 0), 8, .inl (fun _ => 0))), ((ad_7 2), .inl ((ac_8 2), 8, .inl (fun _ => 0))), (q_11, .inr (8, [.ref (ad_14 0), .ref (ad_14 1), .ref (ad_14 2), .int 0, .ref (ad_14 3), .ref (ad_14 4), .ref (ad_14 5), .int 0, .int 0])), (q_18, .inr (2, [.int 0, .int 0, .int 0, .int 0, .int 0])), (q_21, .inr (0, [.int 1048576, .ref (ad_24 0), .int 0]))] H := hP
  have hD : va_D A [(h0, .inr (7, [.int v1, .int 0, .int 0, .int 0, .int 0, .int 0, .int 0, .int 0, .int 0, .int 0, .ref q_1, .ref q_4, .ref q_11, .ref q_18, .ref q_21])), (q_1, .inr (4, [.null, .null, .int 0, .int 0, .int 0, .null, .null, .null, .int 0])), (q_4, .inr (6, [.ref (ad_7 0), .ref (ad_7 1), .ref (ad_7 2)])), ((ad_7 0), .inl ((ac_8 0), 8, .inl (fun _ => 0))), ((ad_7 2), .inl ((ac_8 2), 8, .inl (fun _ => 0))), (q_11, .inr (8, [.ref (ad_14 0), .ref (ad_14 1), .ref (ad_14 2), .int 0, .ref (ad_14 3), .ref (ad_14 4), .ref (ad_14 5), .int 0, .int 0])), (q_18, .inr (2, [.int 0, .int 0, .int 0, .int 0, .int 0])), (q_21, .inr (0, [.int 1048576, .ref (ad_24 0), .int 0]))] := hD
  have hP9 := hP.sub (ws' := [(h0, .inr (7, [.int v1, .int 0, .int 0, .int 0, .int 0, .int 0, .int 0, .int 0, .int 0, .int 0, .ref q_1, .ref q_4, .ref q_11, .ref q_18, .ref q_21])), (q_1, .inr (4, [.null, .null, .int 0, .int 0, .int 0, .null, .null, .null, .int 0])), (q_4, .inr (6, [.ref (ad_7 0), .ref (ad_7 1), .ref (ad_7 2)])), ((ad_7 0), .inl ((ac_8 0), 8, .inl (fun _ => 0))), ((ad_7 2), .inl ((ac_8 2), 8, .inl (fun _ => 0))), (q_11, .inr (8, [.ref (ad_14 0), .ref (ad_14 1), .ref (ad_14 2), .int 0, .ref (ad_14 3), .ref (ad_14 4), .ref (ad_14 5), .int 0, .int 0])), (q_18, .inr (2, [.int 0, .int 0, .int 0, .int 0, .int 0])), (q_21, .inr (0, [.int 1048576, .ref (ad_24 0), .int 0]))]) [0, 1, 2, 3, 4, 5, 6, 7] rfl
  have hD9 := hD.sub (ws' := [(h0, .inr (7, [.int v1, .int 0, .int 0, .int 0, .int 0, .int 0, .int 0, .int 0, .int 0, .int 0, .ref q_1, .ref q_4, .ref q_11, .ref q_18, .ref q_21])), (q_1, .inr (4, [.null, .null, .int 0, .int 0, .int 0, .null, .null, .null, .int 0])), (q_4, .inr (6, [.ref (ad_7 0), .ref (ad_7 1), .ref (ad_7 2)])), ((ad_7 0), .inl ((ac_8 0), 8, .inl (fun _ => 0))), ((ad_7 2), .inl ((ac_8 2), 8, .inl (fun _ => 0))), (q_11, .inr (8, [.ref (ad_14 0), .ref (ad_14 1), .ref (ad_14 2), .int 0, .ref (ad_14 3), .ref (ad_14 4), .ref (ad_14 5), .int 0, .int 0])), (q_18, .inr (2, [.int 0, .int 0, .int 0, .int 0, .int 0])), (q_21, .inr (0, [.int 1048576, .ref (ad_24 0), .int 0]))]) [0, 1, 2, 3, 4, 5, 6, 7] (by decide) rfl
  have hK9 := hK.sub (tys' := [((ac_8 0), .boolean), ((ac_8 2), .int)]) [0, 1] rfl
  exact W.vret hx hb hr (fun t ht hW => ⟨⟨((fun k => ([q_1, q_4, q_11, q_18, q_21, (ad_7 0), (ad_7 1), (ad_7 2), (ad_14 0), (ad_14 1), (ad_14 2), (ad_14 3), (ad_14 4), (ad_14 5), (ad_24 0)] : List Nat).getD k 0), (fun k => ([(ac_8 0), (ac_8 2)] : List ClassId).getD k (dC 0)), (fun _ => (fun _ => 0)), (fun _ => (fun _ => none))), rfl, trivial, by rw [ht]; exact hP9, hD9, va_K.moved hW.alike hK9⟩, hS.F ht⟩) hS.2.2 dX7_init_66

set_option maxHeartbeats 4000000 in
set_option maxRecDepth 100000 in
theorem c_X7_begin (l : Launch) (dC : Nat → ClassId) (dI : Nat → Nat → Nat) (h0 : Nat) (r0 : Nat) (r1 : Nat) (r2 : Nat) (r3 : Nat) (r4 : Nat) (w0 : Nat) (w1 : Nat) (w2 : Nat) (s0 : Nat) (s1 : Nat) (s2 : Nat) (s3 : Nat) (s4 : Nat) (s5 : Nat) (c0 : Nat) (k0 : ClassId) (k2 : ClassId) (f0 : Nat → Int32) (f2 : Nat → Int32) (vn : Int32) (lm : Int32) (v1 : Int32) (sz : Nat)  : Met l yX7_begin (.code yX7_begin cX7_begin 3 none :: gw) ({ frames := 1, cells := 0, slots := 0, locals := 21 }) (va_Pc [.ref h0, .int v1, .null] (fun U => U.heap.size = sz ∧ va_P (dC, dI) vwCl [(h0, .inr (7, [.int vn, .int 0, .int 0, .int 0, .int 0, .int 0, .int 0, .int 0, .int 0, .int 0, .ref r0, .ref r1, .ref r2, .ref r3, .ref r4])), (r0, .inr (4, [.null, .null, .int 0, .int 0, .int 0, .null, .null, .null, .int 0])), (r1, .inr (6, [.ref w0, .ref w1, .ref w2])), (w0, .inl (k0, 8, .inl f0)), (w2, .inl (k2, 8, .inl f2)), (r2, .inr (8, [.ref s0, .ref s1, .ref s2, .int 0, .ref s3, .ref s4, .ref s5, .int 0, .int 0])), (r3, .inr (2, [.int 0, .int 0, .int 0, .int 0, .int 0])), (r4, .inr (0, [.int lm, .ref c0, .int 0]))] U.heap ∧ va_K (dC, dI) vwCl [(k0, .boolean), (k2, .int)] U ∧ va_D (fun _ => True) [(h0, .inr (7, [.int vn, .int 0, .int 0, .int 0, .int 0, .int 0, .int 0, .int 0, .int 0, .int 0, .ref r0, .ref r1, .ref r2, .ref r3, .ref r4])), (r0, .inr (4, [.null, .null, .int 0, .int 0, .int 0, .null, .null, .null, .int 0])), (r1, .inr (6, [.ref w0, .ref w1, .ref w2])), (w0, .inl (k0, 8, .inl f0)), (w2, .inl (k2, 8, .inl f2)), (r2, .inr (8, [.ref s0, .ref s1, .ref s2, .int 0, .ref s3, .ref s4, .ref s5, .int 0, .int 0])), (r3, .inr (2, [.int 0, .int 0, .int 0, .int 0, .int 0])), (r4, .inr (0, [.int lm, .ref c0, .int 0]))] ∧ nx U)) (va_Qv (fun (u : wS) => True) (fun u t => va_P (dC, dI) vwCl [(h0, .inr (7, [.int vn, .int v1, .int 0, .int (-1), .int 0, .int 0, .int 0, .int (-1), .int 0, .int 0, .ref r0, .ref r1, .ref r2, .ref r3, .ref r4])), (r1, .inr (6, [.ref w0, .ref w1, .ref w2])), (w2, .inl (k2, 8, .inl (u.2.2.1 0)))] t.heap ∧ va_D (va_A [(h0, .inr (7, [.int vn, .int 0, .int 0, .int 0, .int 0, .int 0, .int 0, .int 0, .int 0, .int 0, .ref r0, .ref r1, .ref r2, .ref r3, .ref r4])), (r0, .inr (4, [.null, .null, .int 0, .int 0, .int 0, .null, .null, .null, .int 0])), (r1, .inr (6, [.ref w0, .ref w1, .ref w2])), (w0, .inl (k0, 8, .inl f0)), (w2, .inl (k2, 8, .inl f2)), (r2, .inr (8, [.ref s0, .ref s1, .ref s2, .int 0, .ref s3, .ref s4, .ref s5, .int 0, .int 0])), (r3, .inr (2, [.int 0, .int 0, .int 0, .int 0, .int 0])), (r4, .inr (0, [.int lm, .ref c0, .int 0]))] sz) [(h0, .inr (7, [.int vn, .int v1, .int 0, .int (-1), .int 0, .int 0, .int 0, .int (-1), .int 0, .int 0, .ref r0, .ref r1, .ref r2, .ref r3, .ref r4])), (r1, .inr (6, [.ref w0, .ref w1, .ref w2])), (w2, .inl (k2, 8, .inl (u.2.2.1 0)))] ∧ va_K (dC, dI) vwCl [] t) (va_A [(h0, .inr (7, [.int vn, .int 0, .int 0, .int 0, .int 0, .int 0, .int 0, .int 0, .int 0, .int 0, .ref r0, .ref r1, .ref r2, .ref r3, .ref r4])), (r0, .inr (4, [.null, .null, .int 0, .int 0, .int 0, .null, .null, .null, .int 0])), (r1, .inr (6, [.ref w0, .ref w1, .ref w2])), (w0, .inl (k0, 8, .inl f0)), (w2, .inl (k2, 8, .inl f2)), (r2, .inr (8, [.ref s0, .ref s1, .ref s2, .int 0, .ref s3, .ref s4, .ref s5, .int 0, .int 0])), (r3, .inr (2, [.int 0, .int 0, .int 0, .int 0, .int 0])), (r4, .inr (0, [.int lm, .ref c0, .int 0]))] sz)) 0 0 (va_A [(h0, .inr (7, [.int vn, .int 0, .int 0, .int 0, .int 0, .int 0, .int 0, .int 0, .int 0, .int 0, .ref r0, .ref r1, .ref r2, .ref r3, .ref r4])), (r0, .inr (4, [.null, .null, .int 0, .int 0, .int 0, .null, .null, .null, .int 0])), (r1, .inr (6, [.ref w0, .ref w1, .ref w2])), (w0, .inl (k0, 8, .inl f0)), (w2, .inl (k2, 8, .inl f2)), (r2, .inr (8, [.ref s0, .ref s1, .ref s2, .int 0, .ref s3, .ref s4, .ref s5, .int 0, .int 0])), (r3, .inr (2, [.int 0, .int 0, .int 0, .int 0, .int 0])), (r4, .inr (0, [.int lm, .ref c0, .int 0]))] sz) := by
  refine Met.ofW (cc := cX7_begin) (maxL := 3) (ret := none) (by decide) rfl ?_
  intro p e s m args below meth c s₁ B hml hv
  obtain ⟨rfl, hsz, hP, hK, hD0, hN⟩ := hv
  have hx := B.exec
  have hb := B.bytes
  have hr := B.returns
  have hts := atoms_spec (ws := .code yX7_begin cX7_begin 3 none :: gw) B.pre
  have hg : ∀ w ∈ gw, w.before _ s = true := fun w h => hts w (List.mem_cons_of_mem _ h)
  have hown : s.vm.findClass RX7 = some m.cls := findClass_of_methodNamed B.named
  have hlocks := B.notSynchronized
  subst hsz
  have hD := hD0.self (sz := s.heap.size)
  generalize hAe : va_A [(h0, .inr (7, [.int vn, .int 0, .int 0, .int 0, .int 0, .int 0, .int 0, .int 0, .int 0, .int 0, .ref r0, .ref r1, .ref r2, .ref r3, .ref r4])), (r0, .inr (4, [.null, .null, .int 0, .int 0, .int 0, .null, .null, .null, .int 0])), (r1, .inr (6, [.ref w0, .ref w1, .ref w2])), (w0, .inl (k0, 8, .inl f0)), (w2, .inl (k2, 8, .inl f2)), (r2, .inr (8, [.ref s0, .ref s1, .ref s2, .int 0, .ref s3, .ref s4, .ref s5, .int 0, .int 0])), (r3, .inr (2, [.int 0, .int 0, .int 0, .int 0, .int 0])), (r4, .inr (0, [.int lm, .ref c0, .int 0]))] s.heap.size = A at hD ⊢
  have hA : ∀ q : Nat, s.heap.size ≤ q → A q := fun q h => by rw [← hAe]; exact Or.inr h
  have hS : va_S A s.heap s.heap [] := va_S.rf
  have hP : va_P (dC, dI) vwCl [(h0, .inr (7, [.int vn, .int 0, .int 0, .int 0, .int 0, .int 0, .int 0, .int 0, .int 0, .int 0, .ref r0, .ref r1, .ref r2, .ref r3, .ref r4])), (r0, .inr (4, [.null, .null, .int 0, .int 0, .int 0, .null, .null, .null, .int 0])), (r1, .inr (6, [.ref w0, .ref w1, .ref w2])), (w0, .inl (k0, 8, .inl f0)), (w2, .inl (k2, 8, .inl f2)), (r2, .inr (8, [.ref s0, .ref s1, .ref s2, .int 0, .ref s3, .ref s4, .ref s5, .int 0, .int 0])), (r3, .inr (2, [.int 0, .int 0, .int 0, .int 0, .int 0])), (r4, .inr (0, [.int lm, .ref c0, .int 0]))] s.heap := hP
  have hl := lv_entry ([.ref h0, .int v1, .null]) (n := 3) (Nat.le_of_ble_eq_true rfl)
  rw [lg_entry_eq]
  generalize (lg_sl ([.ref h0, .int v1, .null]) ++ List.replicate (3 - (lg_sl ([.ref h0, .int v1, .null])).length) Slot.unset).toArray = ls at hl ⊢
  have hl : lv_has ls 3 [(0, .ref h0), (1, .int v1), (2, .null)] := hl
  refine lv_aload_n hx hb dX7_begin_0 rfl (lv_at hl 0 rfl) ?_
  refine lv_iload_n hx hb dX7_begin_1 rfl (lv_at hl 1 rfl) ?_
  refine va_put (D := (dC, dI)) (ci := 7) (v := .int v1) (ty := .int) (C := RX7) (T := TX7) (N := 15) hx hb hg gb_7 tyX7 tyX7_ok nmX7 hown hK hP hD hS 0 rfl rfl 1 (by decide) (hg _ gm_fieldLink_RX7_53_ErrandGuild_Run_errand_I_) (fun _ h9 => h9) rfl (by decide +kernel) rfl rfl (Nat.le_of_ble_eq_true rfl) dX7_begin_2 (fun H locs hP hD hS => ?_)
  have hP : va_P (dC, dI) vwCl [(h0, .inr (7, [.int vn, .int v1, .int 0, .int 0, .int 0, .int 0, .int 0, .int 0, .int 0, .int 0, .ref r0, .ref r1, .ref r2, .ref r3, .ref r4])), (r0, .inr (4, [.null, .null, .int 0, .int 0, .int 0, .null, .null, .null, .int 0])), (r1, .inr (6, [.ref w0, .ref w1, .ref w2])), (w0, .inl (k0, 8, .inl f0)), (w2, .inl (k2, 8, .inl f2)), (r2, .inr (8, [.ref s0, .ref s1, .ref s2, .int 0, .ref s3, .ref s4, .ref s5, .int 0, .int 0])), (r3, .inr (2, [.int 0, .int 0, .int 0, .int 0, .int 0])), (r4, .inr (0, [.int lm, .ref c0, .int 0]))] H := hP
  have hD : va_D A [(h0, .inr (7, [.int vn, .int v1, .int 0, .int 0, .int 0, .int 0, .int 0, .int 0, .int 0, .int 0, .ref r0, .ref r1, .ref r2, .ref r3, .ref r4])), (r0, .inr (4, [.null, .null, .int 0, .int 0, .int 0, .null, .null, .null, .int 0])), (r1, .inr (6, [.ref w0, .ref w1, .ref w2])), (w0, .inl (k0, 8, .inl f0)), (w2, .inl (k2, 8, .inl f2)), (r2, .inr (8, [.ref s0, .ref s1, .ref s2, .int 0, .ref s3, .ref s4, .ref s5, .int 0, .int 0])), (r3, .inr (2, [.int 0, .int 0, .int 0, .int 0, .int 0])), (r4, .inr (0, [.int lm, .ref c0, .int 0]))] := hD
  refine lv_aload_n hx hb dX7_begin_5 rfl (lv_at hl 0 rfl) ?_
  refine lv_iconst (v := 0) hx hb dX7_begin_6 (by decide) ?_
  refine va_put (D := (dC, dI)) (ci := 7) (v := .int 0) (ty := .int) (C := RX7) (T := TX7) (N := 15) hx hb hg gb_7 tyX7 tyX7_ok nmX7 hown hK hP hD hS 0 rfl rfl 2 (by decide) (hg _ gm_fieldLink_RX7_56_ErrandGuild_Run_state_I_) (fun _ h9 => h9) rfl (by decide +kernel) rfl rfl (Nat.le_of_ble_eq_true rfl) dX7_begin_7 (fun H locs hP hD hS => ?_)
  have hP : va_P (dC, dI) vwCl [(h0, .inr (7, [.int vn, .int v1, .int 0, .int 0, .int 0, .int 0, .int 0, .int 0, .int 0, .int 0, .ref r0, .ref r1, .ref r2, .ref r3, .ref r4])), (r0, .inr (4, [.null, .null, .int 0, .int 0, .int 0, .null, .null, .null, .int 0])), (r1, .inr (6, [.ref w0, .ref w1, .ref w2])), (w0, .inl (k0, 8, .inl f0)), (w2, .inl (k2, 8, .inl f2)), (r2, .inr (8, [.ref s0, .ref s1, .ref s2, .int 0, .ref s3, .ref s4, .ref s5, .int 0, .int 0])), (r3, .inr (2, [.int 0, .int 0, .int 0, .int 0, .int 0])), (r4, .inr (0, [.int lm, .ref c0, .int 0]))] H := hP
  have hD : va_D A [(h0, .inr (7, [.int vn, .int v1, .int 0, .int 0, .int 0, .int 0, .int 0, .int 0, .int 0, .int 0, .ref r0, .ref r1, .ref r2, .ref r3, .ref r4])), (r0, .inr (4, [.null, .null, .int 0, .int 0, .int 0, .null, .null, .null, .int 0])), (r1, .inr (6, [.ref w0, .ref w1, .ref w2])), (w0, .inl (k0, 8, .inl f0)), (w2, .inl (k2, 8, .inl f2)), (r2, .inr (8, [.ref s0, .ref s1, .ref s2, .int 0, .ref s3, .ref s4, .ref s5, .int 0, .int 0])), (r3, .inr (2, [.int 0, .int 0, .int 0, .int 0, .int 0])), (r4, .inr (0, [.int lm, .ref c0, .int 0]))] := hD
  refine lv_aload_n hx hb dX7_begin_10 rfl (lv_at hl 0 rfl) ?_
  refine lv_iconst (v := -1) hx hb dX7_begin_11 (by decide) ?_
  refine va_put (D := (dC, dI)) (ci := 7) (v := .int (-1)) (ty := .int) (C := RX7) (T := TX7) (N := 15) hx hb hg gb_7 tyX7 tyX7_ok nmX7 hown hK hP hD hS 0 rfl rfl 3 (by decide) (hg _ gm_fieldLink_RX7_59_ErrandGuild_Run_thread_I_) (fun _ h9 => h9) rfl (by decide +kernel) rfl rfl (Nat.le_of_ble_eq_true rfl) dX7_begin_12 (fun H locs hP hD hS => ?_)
  have hP : va_P (dC, dI) vwCl [(h0, .inr (7, [.int vn, .int v1, .int 0, .int (-1), .int 0, .int 0, .int 0, .int 0, .int 0, .int 0, .ref r0, .ref r1, .ref r2, .ref r3, .ref r4])), (r0, .inr (4, [.null, .null, .int 0, .int 0, .int 0, .null, .null, .null, .int 0])), (r1, .inr (6, [.ref w0, .ref w1, .ref w2])), (w0, .inl (k0, 8, .inl f0)), (w2, .inl (k2, 8, .inl f2)), (r2, .inr (8, [.ref s0, .ref s1, .ref s2, .int 0, .ref s3, .ref s4, .ref s5, .int 0, .int 0])), (r3, .inr (2, [.int 0, .int 0, .int 0, .int 0, .int 0])), (r4, .inr (0, [.int lm, .ref c0, .int 0]))] H := hP
  have hD : va_D A [(h0, .inr (7, [.int vn, .int v1, .int 0, .int (-1), .int 0, .int 0, .int 0, .int 0, .int 0, .int 0, .ref r0, .ref r1, .ref r2, .ref r3, .ref r4])), (r0, .inr (4, [.null, .null, .int 0, .int 0, .int 0, .null, .null, .null, .int 0])), (r1, .inr (6, [.ref w0, .ref w1, .ref w2])), (w0, .inl (k0, 8, .inl f0)), (w2, .inl (k2, 8, .inl f2)), (r2, .inr (8, [.ref s0, .ref s1, .ref s2, .int 0, .ref s3, .ref s4, .ref s5, .int 0, .int 0])), (r3, .inr (2, [.int 0, .int 0, .int 0, .int 0, .int 0])), (r4, .inr (0, [.int lm, .ref c0, .int 0]))] := hD
  refine lv_aload_n hx hb dX7_begin_15 rfl (lv_at hl 0 rfl) ?_
  refine lv_iconst (v := 0) hx hb dX7_begin_16 (by decide) ?_
  refine va_put (D := (dC, dI)) (ci := 7) (v := .int 0) (ty := .int) (C := RX7) (T := TX7) (N := 15) hx hb hg gb_7 tyX7 tyX7_ok nmX7 hown hK hP hD hS 0 rfl rfl 4 (by decide) (hg _ gm_fieldLink_RX7_62_ErrandGuild_Run_visits_I_) (fun _ h9 => h9) rfl (by decide +kernel) rfl rfl (Nat.le_of_ble_eq_true rfl) dX7_begin_17 (fun H locs hP hD hS => ?_)
  have hP : va_P (dC, dI) vwCl [(h0, .inr (7, [.int vn, .int v1, .int 0, .int (-1), .int 0, .int 0, .int 0, .int 0, .int 0, .int 0, .ref r0, .ref r1, .ref r2, .ref r3, .ref r4])), (r0, .inr (4, [.null, .null, .int 0, .int 0, .int 0, .null, .null, .null, .int 0])), (r1, .inr (6, [.ref w0, .ref w1, .ref w2])), (w0, .inl (k0, 8, .inl f0)), (w2, .inl (k2, 8, .inl f2)), (r2, .inr (8, [.ref s0, .ref s1, .ref s2, .int 0, .ref s3, .ref s4, .ref s5, .int 0, .int 0])), (r3, .inr (2, [.int 0, .int 0, .int 0, .int 0, .int 0])), (r4, .inr (0, [.int lm, .ref c0, .int 0]))] H := hP
  have hD : va_D A [(h0, .inr (7, [.int vn, .int v1, .int 0, .int (-1), .int 0, .int 0, .int 0, .int 0, .int 0, .int 0, .ref r0, .ref r1, .ref r2, .ref r3, .ref r4])), (r0, .inr (4, [.null, .null, .int 0, .int 0, .int 0, .null, .null, .null, .int 0])), (r1, .inr (6, [.ref w0, .ref w1, .ref w2])), (w0, .inl (k0, 8, .inl f0)), (w2, .inl (k2, 8, .inl f2)), (r2, .inr (8, [.ref s0, .ref s1, .ref s2, .int 0, .ref s3, .ref s4, .ref s5, .int 0, .int 0])), (r3, .inr (2, [.int 0, .int 0, .int 0, .int 0, .int 0])), (r4, .inr (0, [.int lm, .ref c0, .int 0]))] := hD
  refine lv_aload_n hx hb dX7_begin_20 rfl (lv_at hl 0 rfl) ?_
  refine lv_iconst (v := 0) hx hb dX7_begin_21 (by decide) ?_
  refine va_put (D := (dC, dI)) (ci := 7) (v := .int 0) (ty := .int) (C := RX7) (T := TX7) (N := 15) hx hb hg gb_7 tyX7 tyX7_ok nmX7 hown hK hP hD hS 0 rfl rfl 5 (by decide) (hg _ gm_fieldLink_RX7_65_ErrandGuild_Run_sum_I_) (fun _ h9 => h9) rfl (by decide +kernel) rfl rfl (Nat.le_of_ble_eq_true rfl) dX7_begin_22 (fun H locs hP hD hS => ?_)
  have hP : va_P (dC, dI) vwCl [(h0, .inr (7, [.int vn, .int v1, .int 0, .int (-1), .int 0, .int 0, .int 0, .int 0, .int 0, .int 0, .ref r0, .ref r1, .ref r2, .ref r3, .ref r4])), (r0, .inr (4, [.null, .null, .int 0, .int 0, .int 0, .null, .null, .null, .int 0])), (r1, .inr (6, [.ref w0, .ref w1, .ref w2])), (w0, .inl (k0, 8, .inl f0)), (w2, .inl (k2, 8, .inl f2)), (r2, .inr (8, [.ref s0, .ref s1, .ref s2, .int 0, .ref s3, .ref s4, .ref s5, .int 0, .int 0])), (r3, .inr (2, [.int 0, .int 0, .int 0, .int 0, .int 0])), (r4, .inr (0, [.int lm, .ref c0, .int 0]))] H := hP
  have hD : va_D A [(h0, .inr (7, [.int vn, .int v1, .int 0, .int (-1), .int 0, .int 0, .int 0, .int 0, .int 0, .int 0, .ref r0, .ref r1, .ref r2, .ref r3, .ref r4])), (r0, .inr (4, [.null, .null, .int 0, .int 0, .int 0, .null, .null, .null, .int 0])), (r1, .inr (6, [.ref w0, .ref w1, .ref w2])), (w0, .inl (k0, 8, .inl f0)), (w2, .inl (k2, 8, .inl f2)), (r2, .inr (8, [.ref s0, .ref s1, .ref s2, .int 0, .ref s3, .ref s4, .ref s5, .int 0, .int 0])), (r3, .inr (2, [.int 0, .int 0, .int 0, .int 0, .int 0])), (r4, .inr (0, [.int lm, .ref c0, .int 0]))] := hD
  refine lv_aload_n hx hb dX7_begin_25 rfl (lv_at hl 0 rfl) ?_
  refine lv_iconst (v := 0) hx hb dX7_begin_26 (by decide) ?_
  refine va_put (D := (dC, dI)) (ci := 7) (v := .int 0) (ty := .int) (C := RX7) (T := TX7) (N := 15) hx hb hg gb_7 tyX7 tyX7_ok nmX7 hown hK hP hD hS 0 rfl rfl 6 (by decide) (hg _ gm_fieldLink_RX7_68_ErrandGuild_Run_place_I_) (fun _ h9 => h9) rfl (by decide +kernel) rfl rfl (Nat.le_of_ble_eq_true rfl) dX7_begin_27 (fun H locs hP hD hS => ?_)
  have hP : va_P (dC, dI) vwCl [(h0, .inr (7, [.int vn, .int v1, .int 0, .int (-1), .int 0, .int 0, .int 0, .int 0, .int 0, .int 0, .ref r0, .ref r1, .ref r2, .ref r3, .ref r4])), (r0, .inr (4, [.null, .null, .int 0, .int 0, .int 0, .null, .null, .null, .int 0])), (r1, .inr (6, [.ref w0, .ref w1, .ref w2])), (w0, .inl (k0, 8, .inl f0)), (w2, .inl (k2, 8, .inl f2)), (r2, .inr (8, [.ref s0, .ref s1, .ref s2, .int 0, .ref s3, .ref s4, .ref s5, .int 0, .int 0])), (r3, .inr (2, [.int 0, .int 0, .int 0, .int 0, .int 0])), (r4, .inr (0, [.int lm, .ref c0, .int 0]))] H := hP
  have hD : va_D A [(h0, .inr (7, [.int vn, .int v1, .int 0, .int (-1), .int 0, .int 0, .int 0, .int 0, .int 0, .int 0, .ref r0, .ref r1, .ref r2, .ref r3, .ref r4])), (r0, .inr (4, [.null, .null, .int 0, .int 0, .int 0, .null, .null, .null, .int 0])), (r1, .inr (6, [.ref w0, .ref w1, .ref w2])), (w0, .inl (k0, 8, .inl f0)), (w2, .inl (k2, 8, .inl f2)), (r2, .inr (8, [.ref s0, .ref s1, .ref s2, .int 0, .ref s3, .ref s4, .ref s5, .int 0, .int 0])), (r3, .inr (2, [.int 0, .int 0, .int 0, .int 0, .int 0])), (r4, .inr (0, [.int lm, .ref c0, .int 0]))] := hD
  refine lv_aload_n hx hb dX7_begin_30 rfl (lv_at hl 0 rfl) ?_
  refine lv_iconst (v := -1) hx hb dX7_begin_31 (by decide) ?_
  refine va_put (D := (dC, dI)) (ci := 7) (v := .int (-1)) (ty := .int) (C := RX7) (T := TX7) (N := 15) hx hb hg gb_7 tyX7 tyX7_ok nmX7 hown hK hP hD hS 0 rfl rfl 7 (by decide) (hg _ gm_fieldLink_RX7_71_ErrandGuild_Run_overBeat_I_) (fun _ h9 => h9) rfl (by decide +kernel) rfl rfl (Nat.le_of_ble_eq_true rfl) dX7_begin_32 (fun H locs hP hD hS => ?_)
  have hP : va_P (dC, dI) vwCl [(h0, .inr (7, [.int vn, .int v1, .int 0, .int (-1), .int 0, .int 0, .int 0, .int (-1), .int 0, .int 0, .ref r0, .ref r1, .ref r2, .ref r3, .ref r4])), (r0, .inr (4, [.null, .null, .int 0, .int 0, .int 0, .null, .null, .null, .int 0])), (r1, .inr (6, [.ref w0, .ref w1, .ref w2])), (w0, .inl (k0, 8, .inl f0)), (w2, .inl (k2, 8, .inl f2)), (r2, .inr (8, [.ref s0, .ref s1, .ref s2, .int 0, .ref s3, .ref s4, .ref s5, .int 0, .int 0])), (r3, .inr (2, [.int 0, .int 0, .int 0, .int 0, .int 0])), (r4, .inr (0, [.int lm, .ref c0, .int 0]))] H := hP
  have hD : va_D A [(h0, .inr (7, [.int vn, .int v1, .int 0, .int (-1), .int 0, .int 0, .int 0, .int (-1), .int 0, .int 0, .ref r0, .ref r1, .ref r2, .ref r3, .ref r4])), (r0, .inr (4, [.null, .null, .int 0, .int 0, .int 0, .null, .null, .null, .int 0])), (r1, .inr (6, [.ref w0, .ref w1, .ref w2])), (w0, .inl (k0, 8, .inl f0)), (w2, .inl (k2, 8, .inl f2)), (r2, .inr (8, [.ref s0, .ref s1, .ref s2, .int 0, .ref s3, .ref s4, .ref s5, .int 0, .int 0])), (r3, .inr (2, [.int 0, .int 0, .int 0, .int 0, .int 0])), (r4, .inr (0, [.int lm, .ref c0, .int 0]))] := hD
  refine lv_aload_n hx hb dX7_begin_35 rfl (lv_at hl 0 rfl) ?_
  refine lv_iconst (v := 0) hx hb dX7_begin_36 (by decide) ?_
  refine va_put (D := (dC, dI)) (ci := 7) (v := .int 0) (ty := .boolean) (C := RX7) (T := TX7) (N := 15) hx hb hg gb_7 tyX7 tyX7_ok nmX7 hown hK hP hD hS 0 rfl rfl 8 (by decide) (hg _ gm_fieldLink_RX7_74_ErrandGuild_Run_interrupted_Z_) (fun _ h9 => h9) rfl (by decide +kernel) rfl rfl (Nat.le_of_ble_eq_true rfl) dX7_begin_37 (fun H locs hP hD hS => ?_)
  have hP : va_P (dC, dI) vwCl [(h0, .inr (7, [.int vn, .int v1, .int 0, .int (-1), .int 0, .int 0, .int 0, .int (-1), .int 0, .int 0, .ref r0, .ref r1, .ref r2, .ref r3, .ref r4])), (r0, .inr (4, [.null, .null, .int 0, .int 0, .int 0, .null, .null, .null, .int 0])), (r1, .inr (6, [.ref w0, .ref w1, .ref w2])), (w0, .inl (k0, 8, .inl f0)), (w2, .inl (k2, 8, .inl f2)), (r2, .inr (8, [.ref s0, .ref s1, .ref s2, .int 0, .ref s3, .ref s4, .ref s5, .int 0, .int 0])), (r3, .inr (2, [.int 0, .int 0, .int 0, .int 0, .int 0])), (r4, .inr (0, [.int lm, .ref c0, .int 0]))] H := hP
  have hD : va_D A [(h0, .inr (7, [.int vn, .int v1, .int 0, .int (-1), .int 0, .int 0, .int 0, .int (-1), .int 0, .int 0, .ref r0, .ref r1, .ref r2, .ref r3, .ref r4])), (r0, .inr (4, [.null, .null, .int 0, .int 0, .int 0, .null, .null, .null, .int 0])), (r1, .inr (6, [.ref w0, .ref w1, .ref w2])), (w0, .inl (k0, 8, .inl f0)), (w2, .inl (k2, 8, .inl f2)), (r2, .inr (8, [.ref s0, .ref s1, .ref s2, .int 0, .ref s3, .ref s4, .ref s5, .int 0, .int 0])), (r3, .inr (2, [.int 0, .int 0, .int 0, .int 0, .int 0])), (r4, .inr (0, [.int lm, .ref c0, .int 0]))] := hD
  refine lv_aload_n hx hb dX7_begin_40 rfl (lv_at hl 0 rfl) ?_
  refine lv_iconst (v := 0) hx hb dX7_begin_41 (by decide) ?_
  refine va_put (D := (dC, dI)) (ci := 7) (v := .int 0) (ty := .boolean) (C := RX7) (T := TX7) (N := 15) hx hb hg gb_7 tyX7 tyX7_ok nmX7 hown hK hP hD hS 0 rfl rfl 9 (by decide) (hg _ gm_fieldLink_RX7_78_ErrandGuild_Run_returning_Z_) (fun _ h9 => h9) rfl (by decide +kernel) rfl rfl (Nat.le_of_ble_eq_true rfl) dX7_begin_42 (fun H locs hP hD hS => ?_)
  have hP : va_P (dC, dI) vwCl [(h0, .inr (7, [.int vn, .int v1, .int 0, .int (-1), .int 0, .int 0, .int 0, .int (-1), .int 0, .int 0, .ref r0, .ref r1, .ref r2, .ref r3, .ref r4])), (r0, .inr (4, [.null, .null, .int 0, .int 0, .int 0, .null, .null, .null, .int 0])), (r1, .inr (6, [.ref w0, .ref w1, .ref w2])), (w0, .inl (k0, 8, .inl f0)), (w2, .inl (k2, 8, .inl f2)), (r2, .inr (8, [.ref s0, .ref s1, .ref s2, .int 0, .ref s3, .ref s4, .ref s5, .int 0, .int 0])), (r3, .inr (2, [.int 0, .int 0, .int 0, .int 0, .int 0])), (r4, .inr (0, [.int lm, .ref c0, .int 0]))] H := hP
  have hD : va_D A [(h0, .inr (7, [.int vn, .int v1, .int 0, .int (-1), .int 0, .int 0, .int 0, .int (-1), .int 0, .int 0, .ref r0, .ref r1, .ref r2, .ref r3, .ref r4])), (r0, .inr (4, [.null, .null, .int 0, .int 0, .int 0, .null, .null, .null, .int 0])), (r1, .inr (6, [.ref w0, .ref w1, .ref w2])), (w0, .inl (k0, 8, .inl f0)), (w2, .inl (k2, 8, .inl f2)), (r2, .inr (8, [.ref s0, .ref s1, .ref s2, .int 0, .ref s3, .ref s4, .ref s5, .int 0, .int 0])), (r3, .inr (2, [.int 0, .int 0, .int 0, .int 0, .int 0])), (r4, .inr (0, [.int lm, .ref c0, .int 0]))] := hD
  refine lv_aload_n hx hb dX7_begin_45 rfl (lv_at hl 0 rfl) ?_
  refine va_get (D := (dC, dI)) (ci := 7) (v := .ref r0) (C := RX7) (T := TX7) (N := 15) hx hb hg gb_7 hown hK hP 0 rfl rfl 10 (by decide) (hg _ gm_fieldLink_RX7_12_ErrandGuild_Run_kin_LErrandGuild_Kin_) (fun _ h9 => h9) rfl dX7_begin_46 ?_
  refine lv_aload_nN hx hb dX7_begin_49 rfl (lv_at hl 2 rfl) ?_
  have hPc := hP.sub (ws' := [(r0, .inr (4, [.null, .null, .int 0, .int 0, .int 0, .null, .null, .null, .int 0]))]) [1] rfl
  have hDc := hD.sub (ws' := [(r0, .inr (4, [.null, .null, .int 0, .int 0, .int 0, .null, .null, .null, .int 0]))]) [1] (by decide) rfl
  have hKc := hK.sub (tys' := []) [] rfl
  have hFc := va_free (wc := [(r0, .inr (4, [.null, .null, .int 0, .int 0, .int 0, .null, .null, .null, .int 0]))]) hD hS hA [1] rfl
  refine va_callv (va_runV (As := [.null]) (rest := []) ⟨hx, hb, hml, hown, hg⟩ (c_X4_begin l dC dI r0 H.size ) (cwV 1 hg (gw_V gm_methodLink_RX7_81_yX4_begin gm_instanceMethod_yX4_begin gm_selects_RX4_yX4_begin_yX4_begin gm_initialized_RX4 gm_code_yX4_begin_cX4_begin_2_none) rfl rfl rfl (by decide +kernel) ⟨Nat.le_of_ble_eq_true rfl, Nat.le_of_ble_eq_true rfl⟩) ⟨fun a U g mk q => by obtain ⟨q0, q1, qP, qK, qD, qN⟩ := q; exact ⟨q0, q1, qP, va_K.moved (u := U) (U := U.calling g mk a) (Vm.Alike.refl U.vm) qK, qD, nx_same (u := U) (U := U.calling g mk a) rfl qN⟩, va_recv hKc hPc (ci := 4) (q0 := 0) rfl rfl, fun U hU hW => ⟨rfl, by rw [hU], by rw [hU]; exact hPc, va_K.moved hW.alike hKc, hDc.weaken (fun _ _ _ _ => trivial), nx_warm hW hN⟩⟩ rfl rfl hl.1 rfl (lv_room (Nat.le_of_ble_eq_true rfl)) dX7_begin_50 ⟨Nat.le_of_ble_eq_true rfl, Nat.le_of_ble_eq_true rfl⟩) hS (fun q _ h => hFc q h) hFc (fun u_2 t H1 locs ht hvm hw hB hz1 hk1 hS => ?_)
  have hP1 : va_P (dC, dI) vwCl [] H1 := nil_P
  have hD1 := nil_D (A := va_A [(r0, .inr (4, [.null, .null, .int 0, .int 0, .int 0, .null, .null, .null, .int 0]))] H.size)
  obtain ⟨hP, hD⟩ := va_join (wr := [(h0, .inr (7, [.int vn, .int v1, .int 0, .int (-1), .int 0, .int 0, .int 0, .int (-1), .int 0, .int 0, .ref r0, .ref r1, .ref r2, .ref r3, .ref r4])), (r1, .inr (6, [.ref w0, .ref w1, .ref w2])), (w0, .inl (k0, 8, .inl f0)), (w2, .inl (k2, 8, .inl f2)), (r2, .inr (8, [.ref s0, .ref s1, .ref s2, .int 0, .ref s3, .ref s4, .ref s5, .int 0, .int 0])), (r3, .inr (2, [.int 0, .int 0, .int 0, .int 0, .int 0])), (r4, .inr (0, [.int lm, .ref c0, .int 0]))]) (w1 := []) hP hD [1] [0, 2, 3, 4, 5, 6, 7] rfl rfl (by decide) (by decide +kernel) hk1 hFc hP1 hD1
  generalize H1 = H at hP hS ⊢
  have hP : va_P (dC, dI) vwCl [(h0, .inr (7, [.int vn, .int v1, .int 0, .int (-1), .int 0, .int 0, .int 0, .int (-1), .int 0, .int 0, .ref r0, .ref r1, .ref r2, .ref r3, .ref r4])), (r1, .inr (6, [.ref w0, .ref w1, .ref w2])), (w0, .inl (k0, 8, .inl f0)), (w2, .inl (k2, 8, .inl f2)), (r2, .inr (8, [.ref s0, .ref s1, .ref s2, .int 0, .ref s3, .ref s4, .ref s5, .int 0, .int 0])), (r3, .inr (2, [.int 0, .int 0, .int 0, .int 0, .int 0])), (r4, .inr (0, [.int lm, .ref c0, .int 0]))] H := hP
  have hD : va_D A [(h0, .inr (7, [.int vn, .int v1, .int 0, .int (-1), .int 0, .int 0, .int 0, .int (-1), .int 0, .int 0, .ref r0, .ref r1, .ref r2, .ref r3, .ref r4])), (r1, .inr (6, [.ref w0, .ref w1, .ref w2])), (w0, .inl (k0, 8, .inl f0)), (w2, .inl (k2, 8, .inl f2)), (r2, .inr (8, [.ref s0, .ref s1, .ref s2, .int 0, .ref s3, .ref s4, .ref s5, .int 0, .int 0])), (r3, .inr (2, [.int 0, .int 0, .int 0, .int 0, .int 0])), (r4, .inr (0, [.int lm, .ref c0, .int 0]))] := hD
  refine W.widen (k := 0) (n := 0) (Nat.le_of_ble_eq_true rfl) (Nat.le_of_ble_eq_true rfl) ?_
  refine lv_aload_n hx hb dX7_begin_53 rfl (lv_at hl 0 rfl) ?_
  refine va_get (D := (dC, dI)) (ci := 7) (v := .ref r1) (C := RX7) (T := TX7) (N := 15) hx hb hg gb_7 hown hK hP 0 rfl rfl 11 (by decide) (hg _ gm_fieldLink_RX7_21_ErrandGuild_Run_memory_LErrandGuild_Memory_) (fun _ h9 => h9) rfl dX7_begin_54 ?_
  have hPc := hP.sub (ws' := [(r1, .inr (6, [.ref w0, .ref w1, .ref w2])), (w0, .inl (k0, 8, .inl f0)), (w2, .inl (k2, 8, .inl f2))]) [1, 2, 3] rfl
  have hDc := hD.sub (ws' := [(r1, .inr (6, [.ref w0, .ref w1, .ref w2])), (w0, .inl (k0, 8, .inl f0)), (w2, .inl (k2, 8, .inl f2))]) [1, 2, 3] (by decide) rfl
  have hKc := hK.sub (tys' := [(k0, .boolean), (k2, .int)]) [0, 1] rfl
  have hFc := va_free (wc := [(r1, .inr (6, [.ref w0, .ref w1, .ref w2])), (w0, .inl (k0, 8, .inl f0)), (w2, .inl (k2, 8, .inl f2))]) hD hS hA [1, 2, 3] rfl
  refine va_callv (va_runV (As := []) (rest := []) ⟨hx, hb, hml, hown, hg⟩ (c_X6_clear l dC dI r1 w0 w1 w2 k0 k2 f0 f2 H.size ) (cwV 0 hg (gw_V gm_methodLink_RX7_85_yX6_clear gm_instanceMethod_yX6_clear gm_selects_RX6_yX6_clear_yX6_clear gm_initialized_RX6 gm_code_yX6_clear_cX6_clear_2_none) rfl rfl rfl (by decide +kernel) ⟨Nat.le_of_ble_eq_true rfl, Nat.le_of_ble_eq_true rfl⟩) ⟨fun a U g mk q => by obtain ⟨q0, q1, qP, qK, qD, qN⟩ := q; exact ⟨q0, q1, qP, va_K.moved (u := U) (U := U.calling g mk a) (Vm.Alike.refl U.vm) qK, qD, nx_same (u := U) (U := U.calling g mk a) rfl qN⟩, va_recv hKc hPc (ci := 6) (q0 := 0) rfl rfl, fun U hU hW => ⟨rfl, by rw [hU], by rw [hU]; exact hPc, va_K.moved hW.alike hKc, hDc.weaken (fun _ _ _ _ => trivial), nx_warm hW hN⟩⟩ rfl rfl hl.1 rfl (lv_room (Nat.le_of_ble_eq_true rfl)) dX7_begin_57 ⟨Nat.le_of_ble_eq_true rfl, Nat.le_of_ble_eq_true rfl⟩) hS (fun q _ h => hFc q h) hFc (fun u_4 t H1 locs ht hvm hw hB hz1 hk1 hS => ?_)
  obtain ⟨ad_5, ac_6, af_7, ag_8⟩ := u_4
  obtain ⟨hP1, hD1, hK1⟩ := hB
  rw [ht] at hP1
  have hK1 := va_K.moved hvm.symm hK1
  obtain ⟨hP, hD⟩ := va_join (wr := [(h0, .inr (7, [.int vn, .int v1, .int 0, .int (-1), .int 0, .int 0, .int 0, .int (-1), .int 0, .int 0, .ref r0, .ref r1, .ref r2, .ref r3, .ref r4])), (r2, .inr (8, [.ref s0, .ref s1, .ref s2, .int 0, .ref s3, .ref s4, .ref s5, .int 0, .int 0])), (r3, .inr (2, [.int 0, .int 0, .int 0, .int 0, .int 0])), (r4, .inr (0, [.int lm, .ref c0, .int 0]))]) (w1 := [(r1, .inr (6, [.ref w0, .ref w1, .ref w2])), (w2, .inl (k2, 8, .inl (af_7 0)))]) hP hD [1, 2, 3] [0, 4, 5, 6] rfl rfl (by decide) (by decide +kernel) hk1 hFc hP1 hD1
  generalize H1 = H at hP hS ⊢
  have hP : va_P (dC, dI) vwCl [(h0, .inr (7, [.int vn, .int v1, .int 0, .int (-1), .int 0, .int 0, .int 0, .int (-1), .int 0, .int 0, .ref r0, .ref r1, .ref r2, .ref r3, .ref r4])), (r2, .inr (8, [.ref s0, .ref s1, .ref s2, .int 0, .ref s3, .ref s4, .ref s5, .int 0, .int 0])), (r3, .inr (2, [.int 0, .int 0, .int 0, .int 0, .int 0])), (r4, .inr (0, [.int lm, .ref c0, .int 0])), (r1, .inr (6, [.ref w0, .ref w1, .ref w2])), (w2, .inl (k2, 8, .inl (af_7 0)))] H := hP
  have hD : va_D A [(h0, .inr (7, [.int vn, .int v1, .int 0, .int (-1), .int 0, .int 0, .int 0, .int (-1), .int 0, .int 0, .ref r0, .ref r1, .ref r2, .ref r3, .ref r4])), (r2, .inr (8, [.ref s0, .ref s1, .ref s2, .int 0, .ref s3, .ref s4, .ref s5, .int 0, .int 0])), (r3, .inr (2, [.int 0, .int 0, .int 0, .int 0, .int 0])), (r4, .inr (0, [.int lm, .ref c0, .int 0])), (r1, .inr (6, [.ref w0, .ref w1, .ref w2])), (w2, .inl (k2, 8, .inl (af_7 0)))] := hD
  refine W.widen (k := 0) (n := 0) (Nat.le_of_ble_eq_true rfl) (Nat.le_of_ble_eq_true rfl) ?_
  refine lv_aload_n hx hb dX7_begin_60 rfl (lv_at hl 0 rfl) ?_
  refine va_get (D := (dC, dI)) (ci := 7) (v := .ref r2) (C := RX7) (T := TX7) (N := 15) hx hb hg gb_7 hown hK hP 0 rfl rfl 12 (by decide) (hg _ gm_fieldLink_RX7_28_ErrandGuild_Run_scopes_LErrandGuild_Scopes_) (fun _ h9 => h9) rfl dX7_begin_61 ?_
  have hPc := hP.sub (ws' := [(r2, .inr (8, [.ref s0, .ref s1, .ref s2, .int 0, .ref s3, .ref s4, .ref s5, .int 0, .int 0]))]) [1] rfl
  have hDc := hD.sub (ws' := [(r2, .inr (8, [.ref s0, .ref s1, .ref s2, .int 0, .ref s3, .ref s4, .ref s5, .int 0, .int 0]))]) [1] (by decide) rfl
  have hKc := hK.sub (tys' := []) [] rfl
  have hFc := va_free (wc := [(r2, .inr (8, [.ref s0, .ref s1, .ref s2, .int 0, .ref s3, .ref s4, .ref s5, .int 0, .int 0]))]) hD hS hA [1] rfl
  refine va_callv (va_runV (As := []) (rest := []) ⟨hx, hb, hml, hown, hg⟩ (c_X8_clear l dC dI r2 s0 s1 s2 s3 s4 s5 H.size ) (cwV 0 hg (gw_V gm_methodLink_RX7_88_yX8_clear gm_instanceMethod_yX8_clear gm_selects_RX8_yX8_clear_yX8_clear gm_initialized_RX8 gm_code_yX8_clear_cX8_clear_1_none) rfl rfl rfl (by decide +kernel) ⟨Nat.le_of_ble_eq_true rfl, Nat.le_of_ble_eq_true rfl⟩) ⟨fun a U g mk q => by obtain ⟨q0, q1, qP, qK, qD, qN⟩ := q; exact ⟨q0, q1, qP, va_K.moved (u := U) (U := U.calling g mk a) (Vm.Alike.refl U.vm) qK, qD, nx_same (u := U) (U := U.calling g mk a) rfl qN⟩, va_recv hKc hPc (ci := 8) (q0 := 0) rfl rfl, fun U hU hW => ⟨rfl, by rw [hU], by rw [hU]; exact hPc, va_K.moved hW.alike hKc, hDc.weaken (fun _ _ _ _ => trivial), nx_warm hW hN⟩⟩ rfl rfl hl.1 rfl (lv_room (Nat.le_of_ble_eq_true rfl)) dX7_begin_64 ⟨Nat.le_of_ble_eq_true rfl, Nat.le_of_ble_eq_true rfl⟩) hS (fun q _ h => hFc q h) hFc (fun u_10 t H1 locs ht hvm hw hB hz1 hk1 hS => ?_)
  have hP1 : va_P (dC, dI) vwCl [] H1 := nil_P
  have hD1 := nil_D (A := va_A [(r2, .inr (8, [.ref s0, .ref s1, .ref s2, .int 0, .ref s3, .ref s4, .ref s5, .int 0, .int 0]))] H.size)
  obtain ⟨hP, hD⟩ := va_join (wr := [(h0, .inr (7, [.int vn, .int v1, .int 0, .int (-1), .int 0, .int 0, .int 0, .int (-1), .int 0, .int 0, .ref r0, .ref r1, .ref r2, .ref r3, .ref r4])), (r3, .inr (2, [.int 0, .int 0, .int 0, .int 0, .int 0])), (r4, .inr (0, [.int lm, .ref c0, .int 0])), (r1, .inr (6, [.ref w0, .ref w1, .ref w2])), (w2, .inl (k2, 8, .inl (af_7 0)))]) (w1 := []) hP hD [1] [0, 2, 3, 4, 5] rfl rfl (by decide) (by decide +kernel) hk1 hFc hP1 hD1
  generalize H1 = H at hP hS ⊢
  have hP : va_P (dC, dI) vwCl [(h0, .inr (7, [.int vn, .int v1, .int 0, .int (-1), .int 0, .int 0, .int 0, .int (-1), .int 0, .int 0, .ref r0, .ref r1, .ref r2, .ref r3, .ref r4])), (r3, .inr (2, [.int 0, .int 0, .int 0, .int 0, .int 0])), (r4, .inr (0, [.int lm, .ref c0, .int 0])), (r1, .inr (6, [.ref w0, .ref w1, .ref w2])), (w2, .inl (k2, 8, .inl (af_7 0)))] H := hP
  have hD : va_D A [(h0, .inr (7, [.int vn, .int v1, .int 0, .int (-1), .int 0, .int 0, .int 0, .int (-1), .int 0, .int 0, .ref r0, .ref r1, .ref r2, .ref r3, .ref r4])), (r3, .inr (2, [.int 0, .int 0, .int 0, .int 0, .int 0])), (r4, .inr (0, [.int lm, .ref c0, .int 0])), (r1, .inr (6, [.ref w0, .ref w1, .ref w2])), (w2, .inl (k2, 8, .inl (af_7 0)))] := hD
  refine W.widen (k := 0) (n := 0) (Nat.le_of_ble_eq_true rfl) (Nat.le_of_ble_eq_true rfl) ?_
  refine lv_aload_n hx hb dX7_begin_67 rfl (lv_at hl 0 rfl) ?_
  refine va_get (D := (dC, dI)) (ci := 7) (v := .ref r3) (C := RX7) (T := TX7) (N := 15) hx hb hg gb_7 hown hK hP 0 rfl rfl 13 (by decide) (hg _ gm_fieldLink_RX7_35_ErrandGuild_Run_fault_LErrandGuild_Fault_) (fun _ h9 => h9) rfl dX7_begin_68 ?_
  have hPc := hP.sub (ws' := [(r3, .inr (2, [.int 0, .int 0, .int 0, .int 0, .int 0]))]) [1] rfl
  have hDc := hD.sub (ws' := [(r3, .inr (2, [.int 0, .int 0, .int 0, .int 0, .int 0]))]) [1] (by decide) rfl
  have hKc := hK.sub (tys' := []) [] rfl
  have hFc := va_free (wc := [(r3, .inr (2, [.int 0, .int 0, .int 0, .int 0, .int 0]))]) hD hS hA [1] rfl
  refine va_callv (va_runV (As := []) (rest := []) ⟨hx, hb, hml, hown, hg⟩ (c_X2_clear l dC dI r3 H.size ) (cwV 0 hg (gw_V gm_methodLink_RX7_89_yX2_clear gm_instanceMethod_yX2_clear gm_selects_RX2_yX2_clear_yX2_clear gm_initialized_RX2 gm_code_yX2_clear_cX2_clear_1_none) rfl rfl rfl (by decide +kernel) ⟨Nat.le_of_ble_eq_true rfl, Nat.le_of_ble_eq_true rfl⟩) ⟨fun a U g mk q => by obtain ⟨q0, q1, qP, qK, qD, qN⟩ := q; exact ⟨q0, q1, qP, va_K.moved (u := U) (U := U.calling g mk a) (Vm.Alike.refl U.vm) qK, qD, nx_same (u := U) (U := U.calling g mk a) rfl qN⟩, va_recv hKc hPc (ci := 2) (q0 := 0) rfl rfl, fun U hU hW => ⟨rfl, by rw [hU], by rw [hU]; exact hPc, va_K.moved hW.alike hKc, hDc.weaken (fun _ _ _ _ => trivial), nx_warm hW hN⟩⟩ rfl rfl hl.1 rfl (lv_room (Nat.le_of_ble_eq_true rfl)) dX7_begin_71 ⟨Nat.le_of_ble_eq_true rfl, Nat.le_of_ble_eq_true rfl⟩) hS (fun q _ h => hFc q h) hFc (fun u_12 t H1 locs ht hvm hw hB hz1 hk1 hS => ?_)
  have hP1 : va_P (dC, dI) vwCl [] H1 := nil_P
  have hD1 := nil_D (A := va_A [(r3, .inr (2, [.int 0, .int 0, .int 0, .int 0, .int 0]))] H.size)
  obtain ⟨hP, hD⟩ := va_join (wr := [(h0, .inr (7, [.int vn, .int v1, .int 0, .int (-1), .int 0, .int 0, .int 0, .int (-1), .int 0, .int 0, .ref r0, .ref r1, .ref r2, .ref r3, .ref r4])), (r4, .inr (0, [.int lm, .ref c0, .int 0])), (r1, .inr (6, [.ref w0, .ref w1, .ref w2])), (w2, .inl (k2, 8, .inl (af_7 0)))]) (w1 := []) hP hD [1] [0, 2, 3, 4] rfl rfl (by decide) (by decide +kernel) hk1 hFc hP1 hD1
  generalize H1 = H at hP hS ⊢
  have hP : va_P (dC, dI) vwCl [(h0, .inr (7, [.int vn, .int v1, .int 0, .int (-1), .int 0, .int 0, .int 0, .int (-1), .int 0, .int 0, .ref r0, .ref r1, .ref r2, .ref r3, .ref r4])), (r4, .inr (0, [.int lm, .ref c0, .int 0])), (r1, .inr (6, [.ref w0, .ref w1, .ref w2])), (w2, .inl (k2, 8, .inl (af_7 0)))] H := hP
  have hD : va_D A [(h0, .inr (7, [.int vn, .int v1, .int 0, .int (-1), .int 0, .int 0, .int 0, .int (-1), .int 0, .int 0, .ref r0, .ref r1, .ref r2, .ref r3, .ref r4])), (r4, .inr (0, [.int lm, .ref c0, .int 0])), (r1, .inr (6, [.ref w0, .ref w1, .ref w2])), (w2, .inl (k2, 8, .inl (af_7 0)))] := hD
  refine W.widen (k := 0) (n := 0) (Nat.le_of_ble_eq_true rfl) (Nat.le_of_ble_eq_true rfl) ?_
  refine lv_aload_n hx hb dX7_begin_74 rfl (lv_at hl 0 rfl) ?_
  refine va_get (D := (dC, dI)) (ci := 7) (v := .ref r4) (C := RX7) (T := TX7) (N := 15) hx hb hg gb_7 hown hK hP 0 rfl rfl 14 (by decide) (hg _ gm_fieldLink_RX7_45_ErrandGuild_Run_remarks_LErrandGuild_Cells_) (fun _ h9 => h9) rfl dX7_begin_75 ?_
  have hPc := hP.sub (ws' := [(r4, .inr (0, [.int lm, .ref c0, .int 0]))]) [1] rfl
  have hDc := hD.sub (ws' := [(r4, .inr (0, [.int lm, .ref c0, .int 0]))]) [1] (by decide) rfl
  have hKc := hK.sub (tys' := []) [] rfl
  have hFc := va_free (wc := [(r4, .inr (0, [.int lm, .ref c0, .int 0]))]) hD hS hA [1] rfl
  refine va_callv (va_runV (As := []) (rest := []) ⟨hx, hb, hml, hown, hg⟩ (c_X0_clear l dC dI r4 c0 lm 0 H.size ) (cwV 0 hg (gw_V gm_methodLink_RX7_90_yX0_clear gm_instanceMethod_yX0_clear gm_selects_RX0_yX0_clear_yX0_clear gm_initialized_RX0 gm_code_yX0_clear_cX0_clear_1_none) rfl rfl rfl (by decide +kernel) ⟨Nat.le_of_ble_eq_true rfl, Nat.le_of_ble_eq_true rfl⟩) ⟨fun a U g mk q => by obtain ⟨q0, q1, qP, qK, qD, qN⟩ := q; exact ⟨q0, q1, qP, va_K.moved (u := U) (U := U.calling g mk a) (Vm.Alike.refl U.vm) qK, qD, nx_same (u := U) (U := U.calling g mk a) rfl qN⟩, va_recv hKc hPc (ci := 0) (q0 := 0) rfl rfl, fun U hU hW => ⟨rfl, by rw [hU], by rw [hU]; exact hPc, va_K.moved hW.alike hKc, hDc.weaken (fun _ _ _ _ => trivial), nx_warm hW hN⟩⟩ rfl rfl hl.1 rfl (lv_room (Nat.le_of_ble_eq_true rfl)) dX7_begin_78 ⟨Nat.le_of_ble_eq_true rfl, Nat.le_of_ble_eq_true rfl⟩) hS (fun q _ h => hFc q h) hFc (fun u_14 t H1 locs ht hvm hw hB hz1 hk1 hS => ?_)
  have hP1 : va_P (dC, dI) vwCl [] H1 := nil_P
  have hD1 := nil_D (A := va_A [(r4, .inr (0, [.int lm, .ref c0, .int 0]))] H.size)
  obtain ⟨hP, hD⟩ := va_join (wr := [(h0, .inr (7, [.int vn, .int v1, .int 0, .int (-1), .int 0, .int 0, .int 0, .int (-1), .int 0, .int 0, .ref r0, .ref r1, .ref r2, .ref r3, .ref r4])), (r1, .inr (6, [.ref w0, .ref w1, .ref w2])), (w2, .inl (k2, 8, .inl (af_7 0)))]) (w1 := []) hP hD [1] [0, 2, 3] rfl rfl (by decide) (by decide +kernel) hk1 hFc hP1 hD1
  generalize H1 = H at hP hS ⊢
  have hP : va_P (dC, dI) vwCl [(h0, .inr (7, [.int vn, .int v1, .int 0, .int (-1), .int 0, .int 0, .int 0, .int (-1), .int 0, .int 0, .ref r0, .ref r1, .ref r2, .ref r3, .ref r4])), (r1, .inr (6, [.ref w0, .ref w1, .ref w2])), (w2, .inl (k2, 8, .inl (af_7 0)))] H := hP
  have hD : va_D A [(h0, .inr (7, [.int vn, .int v1, .int 0, .int (-1), .int 0, .int 0, .int 0, .int (-1), .int 0, .int 0, .ref r0, .ref r1, .ref r2, .ref r3, .ref r4])), (r1, .inr (6, [.ref w0, .ref w1, .ref w2])), (w2, .inl (k2, 8, .inl (af_7 0)))] := hD
  refine W.widen (k := 0) (n := 0) (Nat.le_of_ble_eq_true rfl) (Nat.le_of_ble_eq_true rfl) ?_
  have hP9 := hP.sub (ws' := [(h0, .inr (7, [.int vn, .int v1, .int 0, .int (-1), .int 0, .int 0, .int 0, .int (-1), .int 0, .int 0, .ref r0, .ref r1, .ref r2, .ref r3, .ref r4])), (r1, .inr (6, [.ref w0, .ref w1, .ref w2])), (w2, .inl (k2, 8, .inl (af_7 0)))]) [0, 1, 2] rfl
  have hD9 := hD.sub (ws' := [(h0, .inr (7, [.int vn, .int v1, .int 0, .int (-1), .int 0, .int 0, .int 0, .int (-1), .int 0, .int 0, .ref r0, .ref r1, .ref r2, .ref r3, .ref r4])), (r1, .inr (6, [.ref w0, .ref w1, .ref w2])), (w2, .inl (k2, 8, .inl (af_7 0)))]) [0, 1, 2] (by decide) rfl
  have hK9 := hK.sub (tys' := []) [] rfl
  exact W.vret hx hb hr (fun t ht hW => ⟨⟨((fun _ => 0), (fun _ => (dC 0)), (fun k => ([(af_7 0)] : List (Nat → Int32)).getD k (fun _ => 0)), (fun _ => (fun _ => none))), rfl, trivial, by rw [ht]; exact hP9, hD9, va_K.moved hW.alike hK9⟩, hS.F ht⟩) hS.2.2 dX7_begin_81

set_option maxHeartbeats 4000000 in
set_option maxRecDepth 100000 in
theorem c_X9_openRun (l : Launch) (dC : Nat → ClassId) (dI : Nat → Nat → Nat) (h0 : Nat) (y0 : Nat) (y1 : Nat) (y2 : Nat) (y3 : Nat) (y4 : Nat) (y5 : Nat) (y6 : Nat) (y7 : Nat) (y8 : Nat) (k1 : ClassId) (k4 : ClassId) (v1 : Int32) (sz : Nat)  : Met l yX9_openRun (.code yX9_openRun cX9_openRun 5 (some (.object "ErrandGuild$Run")) :: gw) ({ frames := 3, cells := 16, slots := 228, locals := 62 }) (va_Pc [.ref h0, .int v1, .null] (fun U => U.heap.size = sz ∧ va_P (dC, dI) vwCl [(h0, .inr (9, [.ref y0, .ref y1, .ref y2, .ref y3, .ref y4, .int 0, .ref y5, .int 2, .int 0, .ref y6, .int 0, .ref y7, .int 0, .ref y8, .int 0])), (y1, .inl (k1, 8, .inl (fun _ => 0))), (y4, .inl (k4, 200, .inr (.inr (.inr (.inr (fun _ => none))))))] U.heap ∧ va_K (dC, dI) vwCl [(k1, .int), (k4, .object RX7)] U ∧ va_D (fun _ => True) [(h0, .inr (9, [.ref y0, .ref y1, .ref y2, .ref y3, .ref y4, .int 0, .ref y5, .int 2, .int 0, .ref y6, .int 0, .ref y7, .int 0, .ref y8, .int 0])), (y1, .inl (k1, 8, .inl (fun _ => 0))), (y4, .inl (k4, 200, .inr (.inr (.inr (.inr (fun _ => none))))))] ∧ nx U)) (va_Qq (fun (r : Option Nat) (u : wS) => r = some (u.1 0)) (fun u t => va_P (dC, dI) vwCl [((u.1 0), .inr (7, [.int 0, .int v1, .int 0, .int (-1), .int 0, .int 0, .int 0, .int (-1), .int 0, .int 0, .ref (u.1 1), .ref (u.1 2), .ref (u.1 3), .ref (u.1 4), .ref (u.1 5)]))] t.heap ∧ va_D (va_A [(h0, .inr (9, [.ref y0, .ref y1, .ref y2, .ref y3, .ref y4, .int 0, .ref y5, .int 2, .int 0, .ref y6, .int 0, .ref y7, .int 0, .ref y8, .int 0])), (y1, .inl (k1, 8, .inl (fun _ => 0))), (y4, .inl (k4, 200, .inr (.inr (.inr (.inr (fun _ => none))))))] sz) [((u.1 0), .inr (7, [.int 0, .int v1, .int 0, .int (-1), .int 0, .int 0, .int 0, .int (-1), .int 0, .int 0, .ref (u.1 1), .ref (u.1 2), .ref (u.1 3), .ref (u.1 4), .ref (u.1 5)]))] ∧ va_K (dC, dI) vwCl [] t) (va_A [(h0, .inr (9, [.ref y0, .ref y1, .ref y2, .ref y3, .ref y4, .int 0, .ref y5, .int 2, .int 0, .ref y6, .int 0, .ref y7, .int 0, .ref y8, .int 0])), (y1, .inl (k1, 8, .inl (fun _ => 0))), (y4, .inl (k4, 200, .inr (.inr (.inr (.inr (fun _ => none))))))] sz)) 16 228 (va_A [(h0, .inr (9, [.ref y0, .ref y1, .ref y2, .ref y3, .ref y4, .int 0, .ref y5, .int 2, .int 0, .ref y6, .int 0, .ref y7, .int 0, .ref y8, .int 0])), (y1, .inl (k1, 8, .inl (fun _ => 0))), (y4, .inl (k4, 200, .inr (.inr (.inr (.inr (fun _ => none))))))] sz) := by
  refine Met.ofW (cc := cX9_openRun) (maxL := 5) (ret := (some (.object "ErrandGuild$Run"))) (by decide) rfl ?_
  intro p e s m args below meth c s₁ B hml hv
  obtain ⟨rfl, hsz, hP, hK, hD0, hN⟩ := hv
  have hx := B.exec
  have hb := B.bytes
  have hr := B.returns
  have hts := atoms_spec (ws := .code yX9_openRun cX9_openRun 5 (some (.object "ErrandGuild$Run")) :: gw) B.pre
  have hg : ∀ w ∈ gw, w.before _ s = true := fun w h => hts w (List.mem_cons_of_mem _ h)
  have hown : s.vm.findClass RX9 = some m.cls := findClass_of_methodNamed B.named
  have hlocks := B.notSynchronized
  subst hsz
  have hD := hD0.self (sz := s.heap.size)
  generalize hAe : va_A [(h0, .inr (9, [.ref y0, .ref y1, .ref y2, .ref y3, .ref y4, .int 0, .ref y5, .int 2, .int 0, .ref y6, .int 0, .ref y7, .int 0, .ref y8, .int 0])), (y1, .inl (k1, 8, .inl (fun _ => 0))), (y4, .inl (k4, 200, .inr (.inr (.inr (.inr (fun _ => none))))))] s.heap.size = A at hD ⊢
  have hA : ∀ q : Nat, s.heap.size ≤ q → A q := fun q h => by rw [← hAe]; exact Or.inr h
  have hS : va_S A s.heap s.heap [] := va_S.rf
  have hP : va_P (dC, dI) vwCl [(h0, .inr (9, [.ref y0, .ref y1, .ref y2, .ref y3, .ref y4, .int 0, .ref y5, .int 2, .int 0, .ref y6, .int 0, .ref y7, .int 0, .ref y8, .int 0])), (y1, .inl (k1, 8, .inl (fun _ => 0))), (y4, .inl (k4, 200, .inr (.inr (.inr (.inr (fun _ => none))))))] s.heap := hP
  have hl := lv_entry ([.ref h0, .int v1, .null]) (n := 5) (Nat.le_of_ble_eq_true rfl)
  rw [lg_entry_eq]
  generalize (lg_sl ([.ref h0, .int v1, .null]) ++ List.replicate (5 - (lg_sl ([.ref h0, .int v1, .null])).length) Slot.unset).toArray = ls at hl ⊢
  have hl : lv_has ls 5 [(0, .ref h0), (1, .int v1), (2, .null)] := hl
  refine lv_aload_n hx hb dX9_openRun_0 rfl (lv_at hl 0 rfl) ?_
  refine va_get (D := (dC, dI)) (ci := 9) (v := .int 0) (C := RX9) (T := TX9) (N := 15) hx hb hg gb_9 hown hK hP 0 rfl rfl 5 (by decide) (hg _ gm_fieldLink_RX9_66_ErrandGuild_runCount_I_) (fun _ h9 => h9) rfl dX9_openRun_1 ?_
  refine lv_if_lt (tgt := 17) hx hb dX9_openRun_4 (by decide) (fun c_1 => absurd c_1 (by decide)) (fun _ => ?_)
  refine lv_aload_n hx hb dX9_openRun_7 rfl (lv_at hl 0 rfl) ?_
  refine va_get (D := (dC, dI)) (ci := 9) (v := .int 0) (C := RX9) (T := TX9) (N := 15) hx hb hg gb_9 hown hK hP 0 rfl rfl 5 (by decide) (hg _ gm_fieldLink_RX9_66_ErrandGuild_runCount_I_) (fun _ h9 => h9) rfl dX9_openRun_8 ?_
  refine lv_sipush (v := 200) hx hb dX9_openRun_11 (by decide) ?_
  refine lv_icmp_lt (tgt := 19) hx hb dX9_openRun_14 (by decide) (fun _ => ?_) (fun c_2 => absurd c_2 (by decide))
  refine lv_aload_n hx hb dX9_openRun_19 rfl (lv_at hl 0 rfl) ?_
  refine va_get (D := (dC, dI)) (ci := 9) (v := .ref y4) (C := RX9) (T := TX9) (N := 15) hx hb hg gb_9 hown hK hP 0 rfl rfl 4 (by decide) (hg _ gm_fieldLink_RX9_31_ErrandGuild_runs_ALErrandGuild_Run_) (fun _ h9 => h9) rfl dX9_openRun_20 ?_
  refine lv_aload_n hx hb dX9_openRun_23 rfl (lv_at hl 0 rfl) ?_
  refine va_get (D := (dC, dI)) (ci := 9) (v := .int 0) (C := RX9) (T := TX9) (N := 15) hx hb hg gb_9 hown hK hP 0 rfl rfl 5 (by decide) (hg _ gm_fieldLink_RX9_66_ErrandGuild_runCount_I_) (fun _ h9 => h9) rfl dX9_openRun_24 ?_
  refine va_aldq hx hb hK hP 2 1 rfl rfl (by unfold vp_in; decide) dX9_openRun_27 ?_
  refine W.eq (g2 := F0 m 28 ls [.null]) rfl ?_
  refine lv_astore_nN (lv' := [(3, .null), (0, .ref h0), (1, .int v1), (2, .null)]) hx hb dX9_openRun_28 rfl hl (by decide) rfl (fun ls hl => ?_)
  refine lv_aload_nN hx hb dX9_openRun_29 rfl (lv_at hl 0 rfl) ?_
  refine lv_ifnonnullN hx hb dX9_openRun_30 ?_
  refine va_new (ci := 7) (fs := [.int 0, .int 0, .int 0, .int 0, .int 0, .int 0, .int 0, .int 0, .int 0, .int 0, .null, .null, .null, .null, .null]) (C := RX7) (T := TX7) (N := 15) hx hb hg gb_7 tyX7 tyX7_ok hown (hg _ gm_classLink_RX9_29_RX7) (hg _ gm_instantiable_RX7_15) (hg _ gm_initialized_RX7) hK hP hD hS hA rfl df_X7 (Nat.le_of_ble_eq_true rfl) (Nat.le_of_ble_eq_true rfl) dX9_openRun_33 (fun q_3 H hP hD hS => ?_)
  have hP : va_P (dC, dI) vwCl [(h0, .inr (9, [.ref y0, .ref y1, .ref y2, .ref y3, .ref y4, .int 0, .ref y5, .int 2, .int 0, .ref y6, .int 0, .ref y7, .int 0, .ref y8, .int 0])), (y1, .inl (k1, 8, .inl (fun _ => 0))), (y4, .inl (k4, 200, .inr (.inr (.inr (.inr (fun _ => none)))))), (q_3, .inr (7, [.int 0, .int 0, .int 0, .int 0, .int 0, .int 0, .int 0, .int 0, .int 0, .int 0, .null, .null, .null, .null, .null]))] H := hP
  have hD : va_D A [(h0, .inr (9, [.ref y0, .ref y1, .ref y2, .ref y3, .ref y4, .int 0, .ref y5, .int 2, .int 0, .ref y6, .int 0, .ref y7, .int 0, .ref y8, .int 0])), (y1, .inl (k1, 8, .inl (fun _ => 0))), (y4, .inl (k4, 200, .inr (.inr (.inr (.inr (fun _ => none)))))), (q_3, .inr (7, [.int 0, .int 0, .int 0, .int 0, .int 0, .int 0, .int 0, .int 0, .int 0, .int 0, .null, .null, .null, .null, .null]))] := hD
  refine W.widen (k := 1) (n := 15) (Nat.le_of_ble_eq_true rfl) (Nat.le_of_ble_eq_true rfl) ?_
  refine lv_dup hx hb dX9_openRun_36 rfl ?_
  refine lv_aload_n hx hb dX9_openRun_37 rfl (lv_at hl 1 rfl) ?_
  refine va_get (D := (dC, dI)) (ci := 9) (v := .int 0) (C := RX9) (T := TX9) (N := 15) hx hb hg gb_9 hown hK hP 0 rfl rfl 5 (by decide) (hg _ gm_fieldLink_RX9_66_ErrandGuild_runCount_I_) (fun _ h9 => h9) rfl dX9_openRun_38 ?_
  have hPc := hP.sub (ws' := [(q_3, .inr (7, [.int 0, .int 0, .int 0, .int 0, .int 0, .int 0, .int 0, .int 0, .int 0, .int 0, .null, .null, .null, .null, .null]))]) [3] rfl
  have hDc := hD.sub (ws' := [(q_3, .inr (7, [.int 0, .int 0, .int 0, .int 0, .int 0, .int 0, .int 0, .int 0, .int 0, .int 0, .null, .null, .null, .null, .null]))]) [3] (by decide) rfl
  have hKc := hK.sub (tys' := []) [] rfl
  have hFc := va_free (wc := [(q_3, .inr (7, [.int 0, .int 0, .int 0, .int 0, .int 0, .int 0, .int 0, .int 0, .int 0, .int 0, .null, .null, .null, .null, .null]))]) hD hS hA [3] rfl
  refine va_callv (va_runI (As := [.int 0]) (rest := [.ref q_3]) ⟨hx, hb, hml, hown, hg⟩ (c_X7_init l dC dI q_3 0 H.size ) (cwI 1 hg (gw_c gm_code_yX7_init_cX7_init_2_none) rfl rfl rfl (hg _ gm_initialized_RX7) (hg _ gm_methodLink_RX9_368_yX7_init) (hg _ gm_instanceMethod_yX7_init) rfl (by decide +kernel) ⟨Nat.le_of_ble_eq_true rfl, Nat.le_of_ble_eq_true rfl⟩) ⟨fun a U g mk q => by obtain ⟨q0, q1, qP, qK, qD, qN⟩ := q; exact ⟨q0, q1, qP, va_K.moved (u := U) (U := U.calling g mk a) (Vm.Alike.refl U.vm) qK, qD, nx_same (u := U) (U := U.calling g mk a) rfl qN⟩, fun U hU hW => ⟨rfl, by rw [hU], by rw [hU]; exact hPc, va_K.moved hW.alike hKc, hDc.weaken (fun _ _ _ _ => trivial), nx_warm hW hN⟩⟩ rfl rfl hl.1 rfl (lv_room (Nat.le_of_ble_eq_true rfl)) dX9_openRun_41 ⟨Nat.le_of_ble_eq_true rfl, Nat.le_of_ble_eq_true rfl⟩) hS (fun q _ h => hFc q h) hFc (fun u_5 t H1 locs ht hvm hw hB hz1 hk1 hS => ?_)
  obtain ⟨ad_6, ac_7, af_8, ag_9⟩ := u_5
  obtain ⟨hP1, hD1, hK1⟩ := hB
  rw [ht] at hP1
  have hK1 := va_K.moved hvm.symm hK1
  obtain ⟨hP, hD⟩ := va_join (wr := [(h0, .inr (9, [.ref y0, .ref y1, .ref y2, .ref y3, .ref y4, .int 0, .ref y5, .int 2, .int 0, .ref y6, .int 0, .ref y7, .int 0, .ref y8, .int 0])), (y1, .inl (k1, 8, .inl (fun _ => 0))), (y4, .inl (k4, 200, .inr (.inr (.inr (.inr (fun _ => none))))))]) (w1 := [(q_3, .inr (7, [.int 0, .int 0, .int 0, .int 0, .int 0, .int 0, .int 0, .int 0, .int 0, .int 0, .ref (ad_6 0), .ref (ad_6 1), .ref (ad_6 2), .ref (ad_6 3), .ref (ad_6 4)])), ((ad_6 0), .inr (4, [.null, .null, .int 0, .int 0, .int 0, .null, .null, .null, .int 0])), ((ad_6 1), .inr (6, [.ref (ad_6 5), .ref (ad_6 6), .ref (ad_6 7)])), ((ad_6 5), .inl ((ac_7 0), 8, .inl (fun _ => 0))), ((ad_6 7), .inl ((ac_7 1), 8, .inl (fun _ => 0))), ((ad_6 2), .inr (8, [.ref (ad_6 8), .ref (ad_6 9), .ref (ad_6 10), .int 0, .ref (ad_6 11), .ref (ad_6 12), .ref (ad_6 13), .int 0, .int 0])), ((ad_6 3), .inr (2, [.int 0, .int 0, .int 0, .int 0, .int 0])), ((ad_6 4), .inr (0, [.int 1048576, .ref (ad_6 14), .int 0]))]) hP hD [3] [0, 1, 2] rfl rfl (by decide) (by decide +kernel) hk1 hFc hP1 hD1
  have hK := hK.app hK1
  generalize H1 = H at hP hS ⊢
  have hK : va_K (dC, dI) vwCl [(k1, .int), (k4, .object RX7), ((ac_7 0), .boolean), ((ac_7 1), .int)] s := hK
  have hP : va_P (dC, dI) vwCl [(h0, .inr (9, [.ref y0, .ref y1, .ref y2, .ref y3, .ref y4, .int 0, .ref y5, .int 2, .int 0, .ref y6, .int 0, .ref y7, .int 0, .ref y8, .int 0])), (y1, .inl (k1, 8, .inl (fun _ => 0))), (y4, .inl (k4, 200, .inr (.inr (.inr (.inr (fun _ => none)))))), (q_3, .inr (7, [.int 0, .int 0, .int 0, .int 0, .int 0, .int 0, .int 0, .int 0, .int 0, .int 0, .ref (ad_6 0), .ref (ad_6 1), .ref (ad_6 2), .ref (ad_6 3), .ref (ad_6 4)])), ((ad_6 0), .inr (4, [.null, .null, .int 0, .int 0, .int 0, .null, .null, .null, .int 0])), ((ad_6 1), .inr (6, [.ref (ad_6 5), .ref (ad_6 6), .ref (ad_6 7)])), ((ad_6 5), .inl ((ac_7 0), 8, .inl (fun _ => 0))), ((ad_6 7), .inl ((ac_7 1), 8, .inl (fun _ => 0))), ((ad_6 2), .inr (8, [.ref (ad_6 8), .ref (ad_6 9), .ref (ad_6 10), .int 0, .ref (ad_6 11), .ref (ad_6 12), .ref (ad_6 13), .int 0, .int 0])), ((ad_6 3), .inr (2, [.int 0, .int 0, .int 0, .int 0, .int 0])), ((ad_6 4), .inr (0, [.int 1048576, .ref (ad_6 14), .int 0]))] H := hP
  have hD : va_D A [(h0, .inr (9, [.ref y0, .ref y1, .ref y2, .ref y3, .ref y4, .int 0, .ref y5, .int 2, .int 0, .ref y6, .int 0, .ref y7, .int 0, .ref y8, .int 0])), (y1, .inl (k1, 8, .inl (fun _ => 0))), (y4, .inl (k4, 200, .inr (.inr (.inr (.inr (fun _ => none)))))), (q_3, .inr (7, [.int 0, .int 0, .int 0, .int 0, .int 0, .int 0, .int 0, .int 0, .int 0, .int 0, .ref (ad_6 0), .ref (ad_6 1), .ref (ad_6 2), .ref (ad_6 3), .ref (ad_6 4)])), ((ad_6 0), .inr (4, [.null, .null, .int 0, .int 0, .int 0, .null, .null, .null, .int 0])), ((ad_6 1), .inr (6, [.ref (ad_6 5), .ref (ad_6 6), .ref (ad_6 7)])), ((ad_6 5), .inl ((ac_7 0), 8, .inl (fun _ => 0))), ((ad_6 7), .inl ((ac_7 1), 8, .inl (fun _ => 0))), ((ad_6 2), .inr (8, [.ref (ad_6 8), .ref (ad_6 9), .ref (ad_6 10), .int 0, .ref (ad_6 11), .ref (ad_6 12), .ref (ad_6 13), .int 0, .int 0])), ((ad_6 3), .inr (2, [.int 0, .int 0, .int 0, .int 0, .int 0])), ((ad_6 4), .inr (0, [.int 1048576, .ref (ad_6 14), .int 0]))] := hD
  refine W.widen (k := 16) (n := 228) (Nat.le_of_ble_eq_true rfl) (Nat.le_of_ble_eq_true rfl) ?_
  refine lv_astore_n (lv' := [(3, .ref q_3), (0, .ref h0), (1, .int v1), (2, .null)]) hx hb dX9_openRun_44 rfl hl (by decide) rfl (fun ls hl => ?_)
  refine lv_aload_n hx hb dX9_openRun_45 rfl (lv_at hl 1 rfl) ?_
  refine va_get (D := (dC, dI)) (ci := 9) (v := .ref y4) (C := RX9) (T := TX9) (N := 15) hx hb hg gb_9 hown hK hP 0 rfl rfl 4 (by decide) (hg _ gm_fieldLink_RX9_31_ErrandGuild_runs_ALErrandGuild_Run_) (fun _ h9 => h9) rfl dX9_openRun_46 ?_
  refine lv_aload_n hx hb dX9_openRun_49 rfl (lv_at hl 1 rfl) ?_
  refine va_get (D := (dC, dI)) (ci := 9) (v := .int 0) (C := RX9) (T := TX9) (N := 15) hx hb hg gb_9 hown hK hP 0 rfl rfl 5 (by decide) (hg _ gm_fieldLink_RX9_66_ErrandGuild_runCount_I_) (fun _ h9 => h9) rfl dX9_openRun_50 ?_
  refine lv_aload_n hx hb dX9_openRun_53 rfl (lv_at hl 0 rfl) ?_
  refine va_astq (r := (RX7, TX7, 15)) hx hb hK hP hD hS 2 1 3 7 rfl rfl rfl rfl (by unfold vp_in; decide) dX9_openRun_54 (fun H locs hP hD hS => ?_)
  have hP : va_P (dC, dI) vwCl [(h0, .inr (9, [.ref y0, .ref y1, .ref y2, .ref y3, .ref y4, .int 0, .ref y5, .int 2, .int 0, .ref y6, .int 0, .ref y7, .int 0, .ref y8, .int 0])), (y1, .inl (k1, 8, .inl (fun _ => 0))), (y4, .inl (k4, 200, .inr (.inr (.inr (.inr (va_up (fun _ => none) (Int32.toNatClampNeg 0) (some q_3))))))), (q_3, .inr (7, [.int 0, .int 0, .int 0, .int 0, .int 0, .int 0, .int 0, .int 0, .int 0, .int 0, .ref (ad_6 0), .ref (ad_6 1), .ref (ad_6 2), .ref (ad_6 3), .ref (ad_6 4)])), ((ad_6 0), .inr (4, [.null, .null, .int 0, .int 0, .int 0, .null, .null, .null, .int 0])), ((ad_6 1), .inr (6, [.ref (ad_6 5), .ref (ad_6 6), .ref (ad_6 7)])), ((ad_6 5), .inl ((ac_7 0), 8, .inl (fun _ => 0))), ((ad_6 7), .inl ((ac_7 1), 8, .inl (fun _ => 0))), ((ad_6 2), .inr (8, [.ref (ad_6 8), .ref (ad_6 9), .ref (ad_6 10), .int 0, .ref (ad_6 11), .ref (ad_6 12), .ref (ad_6 13), .int 0, .int 0])), ((ad_6 3), .inr (2, [.int 0, .int 0, .int 0, .int 0, .int 0])), ((ad_6 4), .inr (0, [.int 1048576, .ref (ad_6 14), .int 0]))] H := hP
  have hD : va_D A [(h0, .inr (9, [.ref y0, .ref y1, .ref y2, .ref y3, .ref y4, .int 0, .ref y5, .int 2, .int 0, .ref y6, .int 0, .ref y7, .int 0, .ref y8, .int 0])), (y1, .inl (k1, 8, .inl (fun _ => 0))), (y4, .inl (k4, 200, .inr (.inr (.inr (.inr (va_up (fun _ => none) (Int32.toNatClampNeg 0) (some q_3))))))), (q_3, .inr (7, [.int 0, .int 0, .int 0, .int 0, .int 0, .int 0, .int 0, .int 0, .int 0, .int 0, .ref (ad_6 0), .ref (ad_6 1), .ref (ad_6 2), .ref (ad_6 3), .ref (ad_6 4)])), ((ad_6 0), .inr (4, [.null, .null, .int 0, .int 0, .int 0, .null, .null, .null, .int 0])), ((ad_6 1), .inr (6, [.ref (ad_6 5), .ref (ad_6 6), .ref (ad_6 7)])), ((ad_6 5), .inl ((ac_7 0), 8, .inl (fun _ => 0))), ((ad_6 7), .inl ((ac_7 1), 8, .inl (fun _ => 0))), ((ad_6 2), .inr (8, [.ref (ad_6 8), .ref (ad_6 9), .ref (ad_6 10), .int 0, .ref (ad_6 11), .ref (ad_6 12), .ref (ad_6 13), .int 0, .int 0])), ((ad_6 3), .inr (2, [.int 0, .int 0, .int 0, .int 0, .int 0])), ((ad_6 4), .inr (0, [.int 1048576, .ref (ad_6 14), .int 0]))] := hD
  refine lv_aload_n hx hb dX9_openRun_55 rfl (lv_at hl 0 rfl) ?_
  refine lv_iload_n hx hb dX9_openRun_56 rfl (lv_at hl 2 rfl) ?_
  refine lv_aload_nN hx hb dX9_openRun_57 rfl (lv_at hl 3 rfl) ?_
  have hPc := hP.sub (ws' := [(q_3, .inr (7, [.int 0, .int 0, .int 0, .int 0, .int 0, .int 0, .int 0, .int 0, .int 0, .int 0, .ref (ad_6 0), .ref (ad_6 1), .ref (ad_6 2), .ref (ad_6 3), .ref (ad_6 4)])), ((ad_6 0), .inr (4, [.null, .null, .int 0, .int 0, .int 0, .null, .null, .null, .int 0])), ((ad_6 1), .inr (6, [.ref (ad_6 5), .ref (ad_6 6), .ref (ad_6 7)])), ((ad_6 5), .inl ((ac_7 0), 8, .inl (fun _ => 0))), ((ad_6 7), .inl ((ac_7 1), 8, .inl (fun _ => 0))), ((ad_6 2), .inr (8, [.ref (ad_6 8), .ref (ad_6 9), .ref (ad_6 10), .int 0, .ref (ad_6 11), .ref (ad_6 12), .ref (ad_6 13), .int 0, .int 0])), ((ad_6 3), .inr (2, [.int 0, .int 0, .int 0, .int 0, .int 0])), ((ad_6 4), .inr (0, [.int 1048576, .ref (ad_6 14), .int 0]))]) [3, 4, 5, 6, 7, 8, 9, 10] rfl
  have hDc := hD.sub (ws' := [(q_3, .inr (7, [.int 0, .int 0, .int 0, .int 0, .int 0, .int 0, .int 0, .int 0, .int 0, .int 0, .ref (ad_6 0), .ref (ad_6 1), .ref (ad_6 2), .ref (ad_6 3), .ref (ad_6 4)])), ((ad_6 0), .inr (4, [.null, .null, .int 0, .int 0, .int 0, .null, .null, .null, .int 0])), ((ad_6 1), .inr (6, [.ref (ad_6 5), .ref (ad_6 6), .ref (ad_6 7)])), ((ad_6 5), .inl ((ac_7 0), 8, .inl (fun _ => 0))), ((ad_6 7), .inl ((ac_7 1), 8, .inl (fun _ => 0))), ((ad_6 2), .inr (8, [.ref (ad_6 8), .ref (ad_6 9), .ref (ad_6 10), .int 0, .ref (ad_6 11), .ref (ad_6 12), .ref (ad_6 13), .int 0, .int 0])), ((ad_6 3), .inr (2, [.int 0, .int 0, .int 0, .int 0, .int 0])), ((ad_6 4), .inr (0, [.int 1048576, .ref (ad_6 14), .int 0]))]) [3, 4, 5, 6, 7, 8, 9, 10] (by decide) rfl
  have hKc := hK.sub (tys' := [((ac_7 0), .boolean), ((ac_7 1), .int)]) [2, 3] rfl
  have hFc := va_free (wc := [(q_3, .inr (7, [.int 0, .int 0, .int 0, .int 0, .int 0, .int 0, .int 0, .int 0, .int 0, .int 0, .ref (ad_6 0), .ref (ad_6 1), .ref (ad_6 2), .ref (ad_6 3), .ref (ad_6 4)])), ((ad_6 0), .inr (4, [.null, .null, .int 0, .int 0, .int 0, .null, .null, .null, .int 0])), ((ad_6 1), .inr (6, [.ref (ad_6 5), .ref (ad_6 6), .ref (ad_6 7)])), ((ad_6 5), .inl ((ac_7 0), 8, .inl (fun _ => 0))), ((ad_6 7), .inl ((ac_7 1), 8, .inl (fun _ => 0))), ((ad_6 2), .inr (8, [.ref (ad_6 8), .ref (ad_6 9), .ref (ad_6 10), .int 0, .ref (ad_6 11), .ref (ad_6 12), .ref (ad_6 13), .int 0, .int 0])), ((ad_6 3), .inr (2, [.int 0, .int 0, .int 0, .int 0, .int 0])), ((ad_6 4), .inr (0, [.int 1048576, .ref (ad_6 14), .int 0]))]) hD hS hA [3, 4, 5, 6, 7, 8, 9, 10] rfl
  refine va_callv (va_runV (As := [.int v1, .null]) (rest := []) ⟨hx, hb, hml, hown, hg⟩ (c_X7_begin l dC dI q_3 (ad_6 0) (ad_6 1) (ad_6 2) (ad_6 3) (ad_6 4) (ad_6 5) (ad_6 6) (ad_6 7) (ad_6 8) (ad_6 9) (ad_6 10) (ad_6 11) (ad_6 12) (ad_6 13) (ad_6 14) (ac_7 0) (ac_7 1) (fun _ => 0) (fun _ => 0) 0 1048576 v1 H.size ) (cwV 2 hg (gw_V gm_methodLink_RX9_369_yX7_begin gm_instanceMethod_yX7_begin gm_selects_RX7_yX7_begin_yX7_begin gm_initialized_RX7 gm_code_yX7_begin_cX7_begin_3_none) rfl rfl rfl (by decide +kernel) ⟨Nat.le_of_ble_eq_true rfl, Nat.le_of_ble_eq_true rfl⟩) ⟨fun a U g mk q => by obtain ⟨q0, q1, qP, qK, qD, qN⟩ := q; exact ⟨q0, q1, qP, va_K.moved (u := U) (U := U.calling g mk a) (Vm.Alike.refl U.vm) qK, qD, nx_same (u := U) (U := U.calling g mk a) rfl qN⟩, va_recv hKc hPc (ci := 7) (q0 := 0) rfl rfl, fun U hU hW => ⟨rfl, by rw [hU], by rw [hU]; exact hPc, va_K.moved hW.alike hKc, hDc.weaken (fun _ _ _ _ => trivial), nx_warm hW hN⟩⟩ rfl rfl hl.1 rfl (lv_room (Nat.le_of_ble_eq_true rfl)) dX9_openRun_58 ⟨Nat.le_of_ble_eq_true rfl, Nat.le_of_ble_eq_true rfl⟩) hS (fun q _ h => hFc q h) hFc (fun u_11 t H1 locs ht hvm hw hB hz1 hk1 hS => ?_)
  obtain ⟨ad_12, ac_13, af_14, ag_15⟩ := u_11
  obtain ⟨hP1, hD1, hK1⟩ := hB
  rw [ht] at hP1
  have hK1 := va_K.moved hvm.symm hK1
  obtain ⟨hP, hD⟩ := va_join (wr := [(h0, .inr (9, [.ref y0, .ref y1, .ref y2, .ref y3, .ref y4, .int 0, .ref y5, .int 2, .int 0, .ref y6, .int 0, .ref y7, .int 0, .ref y8, .int 0])), (y1, .inl (k1, 8, .inl (fun _ => 0))), (y4, .inl (k4, 200, .inr (.inr (.inr (.inr (va_up (fun _ => none) (Int32.toNatClampNeg 0) (some q_3)))))))]) (w1 := [(q_3, .inr (7, [.int 0, .int v1, .int 0, .int (-1), .int 0, .int 0, .int 0, .int (-1), .int 0, .int 0, .ref (ad_6 0), .ref (ad_6 1), .ref (ad_6 2), .ref (ad_6 3), .ref (ad_6 4)])), ((ad_6 1), .inr (6, [.ref (ad_6 5), .ref (ad_6 6), .ref (ad_6 7)])), ((ad_6 7), .inl ((ac_7 1), 8, .inl (af_14 0)))]) hP hD [3, 4, 5, 6, 7, 8, 9, 10] [0, 1, 2] rfl rfl (by decide) (by decide +kernel) hk1 hFc hP1 hD1
  generalize H1 = H at hP hS ⊢
  have hP : va_P (dC, dI) vwCl [(h0, .inr (9, [.ref y0, .ref y1, .ref y2, .ref y3, .ref y4, .int 0, .ref y5, .int 2, .int 0, .ref y6, .int 0, .ref y7, .int 0, .ref y8, .int 0])), (y1, .inl (k1, 8, .inl (fun _ => 0))), (y4, .inl (k4, 200, .inr (.inr (.inr (.inr (va_up (fun _ => none) (Int32.toNatClampNeg 0) (some q_3))))))), (q_3, .inr (7, [.int 0, .int v1, .int 0, .int (-1), .int 0, .int 0, .int 0, .int (-1), .int 0, .int 0, .ref (ad_6 0), .ref (ad_6 1), .ref (ad_6 2), .ref (ad_6 3), .ref (ad_6 4)])), ((ad_6 1), .inr (6, [.ref (ad_6 5), .ref (ad_6 6), .ref (ad_6 7)])), ((ad_6 7), .inl ((ac_7 1), 8, .inl (af_14 0)))] H := hP
  have hD : va_D A [(h0, .inr (9, [.ref y0, .ref y1, .ref y2, .ref y3, .ref y4, .int 0, .ref y5, .int 2, .int 0, .ref y6, .int 0, .ref y7, .int 0, .ref y8, .int 0])), (y1, .inl (k1, 8, .inl (fun _ => 0))), (y4, .inl (k4, 200, .inr (.inr (.inr (.inr (va_up (fun _ => none) (Int32.toNatClampNeg 0) (some q_3))))))), (q_3, .inr (7, [.int 0, .int v1, .int 0, .int (-1), .int 0, .int 0, .int 0, .int (-1), .int 0, .int 0, .ref (ad_6 0), .ref (ad_6 1), .ref (ad_6 2), .ref (ad_6 3), .ref (ad_6 4)])), ((ad_6 1), .inr (6, [.ref (ad_6 5), .ref (ad_6 6), .ref (ad_6 7)])), ((ad_6 7), .inl ((ac_7 1), 8, .inl (af_14 0)))] := hD
  refine W.widen (k := 16) (n := 228) (Nat.le_of_ble_eq_true rfl) (Nat.le_of_ble_eq_true rfl) ?_
  refine lv_iconst (v := 0) hx hb dX9_openRun_61 (by decide) ?_
  refine lv_istore (lv' := [(4, .int 0), (3, .ref q_3), (0, .ref h0), (1, .int v1), (2, .null)]) hx hb dX9_openRun_62 hl (by decide) rfl (fun ls hl => ?_)
  refine lv_iload hx hb dX9_openRun_64 (lv_at hl 0 rfl) ?_
  refine lv_bipush (v := 8) hx hb dX9_openRun_66 (by decide) ?_
  refine lv_icmp_ge (tgt := 107) hx hb dX9_openRun_68 (by decide) (fun c_16 => absurd c_16 (by decide)) (fun _ => ?_)
  refine lv_aload_n hx hb dX9_openRun_71 rfl (lv_at hl 1 rfl) ?_
  refine va_get (D := (dC, dI)) (ci := 7) (v := .ref (ad_6 1)) (C := RX7) (T := TX7) (N := 15) hx hb hg gb_7 hown hK hP 3 rfl rfl 11 (by decide) (hg _ gm_fieldLink_RX9_253_ErrandGuild_Run_memory_LErrandGuild_Memory_) (fun _ h9 => h9) rfl dX9_openRun_72 ?_
  refine lv_iload hx hb dX9_openRun_75 (lv_at hl 0 rfl) ?_
  refine lv_aload_nN hx hb dX9_openRun_77 rfl (lv_at hl 4 rfl) ?_
  refine lv_ifnonnullN hx hb dX9_openRun_78 ?_
  refine lv_aload_n hx hb dX9_openRun_81 rfl (lv_at hl 2 rfl) ?_
  refine va_get (D := (dC, dI)) (ci := 9) (v := .ref y1) (C := RX9) (T := TX9) (N := 15) hx hb hg gb_9 hown hK hP 0 rfl rfl 1 (by decide) (hg _ gm_fieldLink_RX9_13_ErrandGuild_firsts_AI_) (fun _ h9 => h9) rfl dX9_openRun_82 ?_
  refine lv_iload hx hb dX9_openRun_85 (lv_at hl 0 rfl) ?_
  refine va_iald hx hb hK hP 1 0 rfl rfl (by unfold vp_in; decide) dX9_openRun_87 ?_
  refine lv_topi (fun z_17 ez_17 => ?_)
  obtain rfl : z_17 = 0 := ez_17
  refine lv_goto (tgt := 98) hx hb dX9_openRun_88 (by decide) ?_
  have hPc := hP.sub (ws' := [((ad_6 1), .inr (6, [.ref (ad_6 5), .ref (ad_6 6), .ref (ad_6 7)])), ((ad_6 7), .inl ((ac_7 1), 8, .inl (af_14 0)))]) [4, 5] rfl
  have hDc := hD.sub (ws' := [((ad_6 1), .inr (6, [.ref (ad_6 5), .ref (ad_6 6), .ref (ad_6 7)])), ((ad_6 7), .inl ((ac_7 1), 8, .inl (af_14 0)))]) [4, 5] (by decide) rfl
  have hKc := hK.sub (tys' := [((ac_7 1), .int)]) [3] rfl
  have hFc := va_free (wc := [((ad_6 1), .inr (6, [.ref (ad_6 5), .ref (ad_6 6), .ref (ad_6 7)])), ((ad_6 7), .inl ((ac_7 1), 8, .inl (af_14 0)))]) hD hS hA [4, 5] rfl
  refine va_callv (va_runV (As := [.int 0, .int 0]) (rest := []) ⟨hx, hb, hml, hown, hg⟩ (c_X6_give l dC dI (ad_6 1) (ad_6 5) (ad_6 6) (ad_6 7) (ac_7 1) (af_14 0) 0 0 H.size ) (cwV 2 hg (gw_V gm_methodLink_RX9_373_yX6_give gm_instanceMethod_yX6_give gm_selects_RX6_yX6_give_yX6_give gm_initialized_RX6 gm_code_yX6_give_cX6_give_3_none) rfl rfl rfl (by decide +kernel) ⟨Nat.le_of_ble_eq_true rfl, Nat.le_of_ble_eq_true rfl⟩) ⟨fun a U g mk q => by obtain ⟨q0, q1, qP, qK, qD, qN⟩ := q; exact ⟨q0, q1, qP, va_K.moved (u := U) (U := U.calling g mk a) (Vm.Alike.refl U.vm) qK, qD, nx_same (u := U) (U := U.calling g mk a) rfl qN⟩, va_recv hKc hPc (ci := 6) (q0 := 0) rfl rfl, fun U hU hW => ⟨rfl, by rw [hU], by rw [hU]; exact hPc, va_K.moved hW.alike hKc, hDc.weaken (fun _ _ _ _ => trivial), nx_warm hW hN⟩⟩ rfl rfl hl.1 rfl (lv_room (Nat.le_of_ble_eq_true rfl)) dX9_openRun_98 ⟨Nat.le_of_ble_eq_true rfl, Nat.le_of_ble_eq_true rfl⟩) hS (fun q _ h => hFc q h) hFc (fun u_19 t H1 locs ht hvm hw hB hz1 hk1 hS => ?_)
  obtain ⟨ad_20, ac_21, af_22, ag_23⟩ := u_19
  obtain ⟨hP1, hD1, hK1⟩ := hB
  rw [ht] at hP1
  have hK1 := va_K.moved hvm.symm hK1
  obtain ⟨hP, hD⟩ := va_join (wr := [(h0, .inr (9, [.ref y0, .ref y1, .ref y2, .ref y3, .ref y4, .int 0, .ref y5, .int 2, .int 0, .ref y6, .int 0, .ref y7, .int 0, .ref y8, .int 0])), (y1, .inl (k1, 8, .inl (fun _ => 0))), (y4, .inl (k4, 200, .inr (.inr (.inr (.inr (va_up (fun _ => none) (Int32.toNatClampNeg 0) (some q_3))))))), (q_3, .inr (7, [.int 0, .int v1, .int 0, .int (-1), .int 0, .int 0, .int 0, .int (-1), .int 0, .int 0, .ref (ad_6 0), .ref (ad_6 1), .ref (ad_6 2), .ref (ad_6 3), .ref (ad_6 4)]))]) (w1 := [((ad_6 1), .inr (6, [.ref (ad_6 5), .ref (ad_6 6), .ref (ad_6 7)])), ((ad_6 7), .inl ((ac_7 1), 8, .inl (af_22 0)))]) hP hD [4, 5] [0, 1, 2, 3] rfl rfl (by decide) (by decide +kernel) hk1 hFc hP1 hD1
  generalize H1 = H at hP hS ⊢
  have hP : va_P (dC, dI) vwCl [(h0, .inr (9, [.ref y0, .ref y1, .ref y2, .ref y3, .ref y4, .int 0, .ref y5, .int 2, .int 0, .ref y6, .int 0, .ref y7, .int 0, .ref y8, .int 0])), (y1, .inl (k1, 8, .inl (fun _ => 0))), (y4, .inl (k4, 200, .inr (.inr (.inr (.inr (va_up (fun _ => none) (Int32.toNatClampNeg 0) (some q_3))))))), (q_3, .inr (7, [.int 0, .int v1, .int 0, .int (-1), .int 0, .int 0, .int 0, .int (-1), .int 0, .int 0, .ref (ad_6 0), .ref (ad_6 1), .ref (ad_6 2), .ref (ad_6 3), .ref (ad_6 4)])), ((ad_6 1), .inr (6, [.ref (ad_6 5), .ref (ad_6 6), .ref (ad_6 7)])), ((ad_6 7), .inl ((ac_7 1), 8, .inl (af_22 0)))] H := hP
  have hD : va_D A [(h0, .inr (9, [.ref y0, .ref y1, .ref y2, .ref y3, .ref y4, .int 0, .ref y5, .int 2, .int 0, .ref y6, .int 0, .ref y7, .int 0, .ref y8, .int 0])), (y1, .inl (k1, 8, .inl (fun _ => 0))), (y4, .inl (k4, 200, .inr (.inr (.inr (.inr (va_up (fun _ => none) (Int32.toNatClampNeg 0) (some q_3))))))), (q_3, .inr (7, [.int 0, .int v1, .int 0, .int (-1), .int 0, .int 0, .int 0, .int (-1), .int 0, .int 0, .ref (ad_6 0), .ref (ad_6 1), .ref (ad_6 2), .ref (ad_6 3), .ref (ad_6 4)])), ((ad_6 1), .inr (6, [.ref (ad_6 5), .ref (ad_6 6), .ref (ad_6 7)])), ((ad_6 7), .inl ((ac_7 1), 8, .inl (af_22 0)))] := hD
  refine W.widen (k := 16) (n := 228) (Nat.le_of_ble_eq_true rfl) (Nat.le_of_ble_eq_true rfl) ?_
  refine lv_iinc (v := 1) (lv' := [(4, .int 1), (3, .ref q_3), (0, .ref h0), (1, .int v1), (2, .null)]) hx hb dX9_openRun_101 hl (k := 0) rfl (by decide) (by decide) rfl (fun ls hl => ?_)
  refine lv_goto (tgt := 64) hx hb dX9_openRun_104 (by decide) ?_
  refine lv_iload hx hb dX9_openRun_64 (lv_at hl 0 rfl) ?_
  refine lv_bipush (v := 8) hx hb dX9_openRun_66 (by decide) ?_
  refine lv_icmp_ge (tgt := 107) hx hb dX9_openRun_68 (by decide) (fun c_24 => absurd c_24 (by decide)) (fun _ => ?_)
  refine lv_aload_n hx hb dX9_openRun_71 rfl (lv_at hl 1 rfl) ?_
  refine va_get (D := (dC, dI)) (ci := 7) (v := .ref (ad_6 1)) (C := RX7) (T := TX7) (N := 15) hx hb hg gb_7 hown hK hP 3 rfl rfl 11 (by decide) (hg _ gm_fieldLink_RX9_253_ErrandGuild_Run_memory_LErrandGuild_Memory_) (fun _ h9 => h9) rfl dX9_openRun_72 ?_
  refine lv_iload hx hb dX9_openRun_75 (lv_at hl 0 rfl) ?_
  refine lv_aload_nN hx hb dX9_openRun_77 rfl (lv_at hl 4 rfl) ?_
  refine lv_ifnonnullN hx hb dX9_openRun_78 ?_
  refine lv_aload_n hx hb dX9_openRun_81 rfl (lv_at hl 2 rfl) ?_
  refine va_get (D := (dC, dI)) (ci := 9) (v := .ref y1) (C := RX9) (T := TX9) (N := 15) hx hb hg gb_9 hown hK hP 0 rfl rfl 1 (by decide) (hg _ gm_fieldLink_RX9_13_ErrandGuild_firsts_AI_) (fun _ h9 => h9) rfl dX9_openRun_82 ?_
  refine lv_iload hx hb dX9_openRun_85 (lv_at hl 0 rfl) ?_
  refine va_iald hx hb hK hP 1 0 rfl rfl (by unfold vp_in; decide) dX9_openRun_87 ?_
  refine lv_topi (fun z_25 ez_25 => ?_)
  obtain rfl : z_25 = 0 := ez_25
  refine lv_goto (tgt := 98) hx hb dX9_openRun_88 (by decide) ?_
  have hPc := hP.sub (ws' := [((ad_6 1), .inr (6, [.ref (ad_6 5), .ref (ad_6 6), .ref (ad_6 7)])), ((ad_6 7), .inl ((ac_7 1), 8, .inl (af_22 0)))]) [4, 5] rfl
  have hDc := hD.sub (ws' := [((ad_6 1), .inr (6, [.ref (ad_6 5), .ref (ad_6 6), .ref (ad_6 7)])), ((ad_6 7), .inl ((ac_7 1), 8, .inl (af_22 0)))]) [4, 5] (by decide) rfl
  have hKc := hK.sub (tys' := [((ac_7 1), .int)]) [3] rfl
  have hFc := va_free (wc := [((ad_6 1), .inr (6, [.ref (ad_6 5), .ref (ad_6 6), .ref (ad_6 7)])), ((ad_6 7), .inl ((ac_7 1), 8, .inl (af_22 0)))]) hD hS hA [4, 5] rfl
  refine va_callv (va_runV (As := [.int 1, .int 0]) (rest := []) ⟨hx, hb, hml, hown, hg⟩ (c_X6_give l dC dI (ad_6 1) (ad_6 5) (ad_6 6) (ad_6 7) (ac_7 1) (af_22 0) 1 0 H.size ) (cwV 2 hg (gw_V gm_methodLink_RX9_373_yX6_give gm_instanceMethod_yX6_give gm_selects_RX6_yX6_give_yX6_give gm_initialized_RX6 gm_code_yX6_give_cX6_give_3_none) rfl rfl rfl (by decide +kernel) ⟨Nat.le_of_ble_eq_true rfl, Nat.le_of_ble_eq_true rfl⟩) ⟨fun a U g mk q => by obtain ⟨q0, q1, qP, qK, qD, qN⟩ := q; exact ⟨q0, q1, qP, va_K.moved (u := U) (U := U.calling g mk a) (Vm.Alike.refl U.vm) qK, qD, nx_same (u := U) (U := U.calling g mk a) rfl qN⟩, va_recv hKc hPc (ci := 6) (q0 := 0) rfl rfl, fun U hU hW => ⟨rfl, by rw [hU], by rw [hU]; exact hPc, va_K.moved hW.alike hKc, hDc.weaken (fun _ _ _ _ => trivial), nx_warm hW hN⟩⟩ rfl rfl hl.1 rfl (lv_room (Nat.le_of_ble_eq_true rfl)) dX9_openRun_98 ⟨Nat.le_of_ble_eq_true rfl, Nat.le_of_ble_eq_true rfl⟩) hS (fun q _ h => hFc q h) hFc (fun u_27 t H1 locs ht hvm hw hB hz1 hk1 hS => ?_)
  obtain ⟨ad_28, ac_29, af_30, ag_31⟩ := u_27
  obtain ⟨hP1, hD1, hK1⟩ := hB
  rw [ht] at hP1
  have hK1 := va_K.moved hvm.symm hK1
  obtain ⟨hP, hD⟩ := va_join (wr := [(h0, .inr (9, [.ref y0, .ref y1, .ref y2, .ref y3, .ref y4, .int 0, .ref y5, .int 2, .int 0, .ref y6, .int 0, .ref y7, .int 0, .ref y8, .int 0])), (y1, .inl (k1, 8, .inl (fun _ => 0))), (y4, .inl (k4, 200, .inr (.inr (.inr (.inr (va_up (fun _ => none) (Int32.toNatClampNeg 0) (some q_3))))))), (q_3, .inr (7, [.int 0, .int v1, .int 0, .int (-1), .int 0, .int 0, .int 0, .int (-1), .int 0, .int 0, .ref (ad_6 0), .ref (ad_6 1), .ref (ad_6 2), .ref (ad_6 3), .ref (ad_6 4)]))]) (w1 := [((ad_6 1), .inr (6, [.ref (ad_6 5), .ref (ad_6 6), .ref (ad_6 7)])), ((ad_6 7), .inl ((ac_7 1), 8, .inl (af_30 0)))]) hP hD [4, 5] [0, 1, 2, 3] rfl rfl (by decide) (by decide +kernel) hk1 hFc hP1 hD1
  generalize H1 = H at hP hS ⊢
  have hP : va_P (dC, dI) vwCl [(h0, .inr (9, [.ref y0, .ref y1, .ref y2, .ref y3, .ref y4, .int 0, .ref y5, .int 2, .int 0, .ref y6, .int 0, .ref y7, .int 0, .ref y8, .int 0])), (y1, .inl (k1, 8, .inl (fun _ => 0))), (y4, .inl (k4, 200, .inr (.inr (.inr (.inr (va_up (fun _ => none) (Int32.toNatClampNeg 0) (some q_3))))))), (q_3, .inr (7, [.int 0, .int v1, .int 0, .int (-1), .int 0, .int 0, .int 0, .int (-1), .int 0, .int 0, .ref (ad_6 0), .ref (ad_6 1), .ref (ad_6 2), .ref (ad_6 3), .ref (ad_6 4)])), ((ad_6 1), .inr (6, [.ref (ad_6 5), .ref (ad_6 6), .ref (ad_6 7)])), ((ad_6 7), .inl ((ac_7 1), 8, .inl (af_30 0)))] H := hP
  have hD : va_D A [(h0, .inr (9, [.ref y0, .ref y1, .ref y2, .ref y3, .ref y4, .int 0, .ref y5, .int 2, .int 0, .ref y6, .int 0, .ref y7, .int 0, .ref y8, .int 0])), (y1, .inl (k1, 8, .inl (fun _ => 0))), (y4, .inl (k4, 200, .inr (.inr (.inr (.inr (va_up (fun _ => none) (Int32.toNatClampNeg 0) (some q_3))))))), (q_3, .inr (7, [.int 0, .int v1, .int 0, .int (-1), .int 0, .int 0, .int 0, .int (-1), .int 0, .int 0, .ref (ad_6 0), .ref (ad_6 1), .ref (ad_6 2), .ref (ad_6 3), .ref (ad_6 4)])), ((ad_6 1), .inr (6, [.ref (ad_6 5), .ref (ad_6 6), .ref (ad_6 7)])), ((ad_6 7), .inl ((ac_7 1), 8, .inl (af_30 0)))] := hD
  refine W.widen (k := 16) (n := 228) (Nat.le_of_ble_eq_true rfl) (Nat.le_of_ble_eq_true rfl) ?_
  refine lv_iinc (v := 2) (lv' := [(4, .int 2), (3, .ref q_3), (0, .ref h0), (1, .int v1), (2, .null)]) hx hb dX9_openRun_101 hl (k := 0) rfl (by decide) (by decide) rfl (fun ls hl => ?_)
  refine lv_goto (tgt := 64) hx hb dX9_openRun_104 (by decide) ?_
  refine lv_iload hx hb dX9_openRun_64 (lv_at hl 0 rfl) ?_
  refine lv_bipush (v := 8) hx hb dX9_openRun_66 (by decide) ?_
  refine lv_icmp_ge (tgt := 107) hx hb dX9_openRun_68 (by decide) (fun c_32 => absurd c_32 (by decide)) (fun _ => ?_)
  refine lv_aload_n hx hb dX9_openRun_71 rfl (lv_at hl 1 rfl) ?_
  refine va_get (D := (dC, dI)) (ci := 7) (v := .ref (ad_6 1)) (C := RX7) (T := TX7) (N := 15) hx hb hg gb_7 hown hK hP 3 rfl rfl 11 (by decide) (hg _ gm_fieldLink_RX9_253_ErrandGuild_Run_memory_LErrandGuild_Memory_) (fun _ h9 => h9) rfl dX9_openRun_72 ?_
  refine lv_iload hx hb dX9_openRun_75 (lv_at hl 0 rfl) ?_
  refine lv_aload_nN hx hb dX9_openRun_77 rfl (lv_at hl 4 rfl) ?_
  refine lv_ifnonnullN hx hb dX9_openRun_78 ?_
  refine lv_aload_n hx hb dX9_openRun_81 rfl (lv_at hl 2 rfl) ?_
  refine va_get (D := (dC, dI)) (ci := 9) (v := .ref y1) (C := RX9) (T := TX9) (N := 15) hx hb hg gb_9 hown hK hP 0 rfl rfl 1 (by decide) (hg _ gm_fieldLink_RX9_13_ErrandGuild_firsts_AI_) (fun _ h9 => h9) rfl dX9_openRun_82 ?_
  refine lv_iload hx hb dX9_openRun_85 (lv_at hl 0 rfl) ?_
  refine va_iald hx hb hK hP 1 0 rfl rfl (by unfold vp_in; decide) dX9_openRun_87 ?_
  refine lv_topi (fun z_33 ez_33 => ?_)
  obtain rfl : z_33 = 0 := ez_33
  refine lv_goto (tgt := 98) hx hb dX9_openRun_88 (by decide) ?_
  have hPc := hP.sub (ws' := [((ad_6 1), .inr (6, [.ref (ad_6 5), .ref (ad_6 6), .ref (ad_6 7)])), ((ad_6 7), .inl ((ac_7 1), 8, .inl (af_30 0)))]) [4, 5] rfl
  have hDc := hD.sub (ws' := [((ad_6 1), .inr (6, [.ref (ad_6 5), .ref (ad_6 6), .ref (ad_6 7)])), ((ad_6 7), .inl ((ac_7 1), 8, .inl (af_30 0)))]) [4, 5] (by decide) rfl
  have hKc := hK.sub (tys' := [((ac_7 1), .int)]) [3] rfl
  have hFc := va_free (wc := [((ad_6 1), .inr (6, [.ref (ad_6 5), .ref (ad_6 6), .ref (ad_6 7)])), ((ad_6 7), .inl ((ac_7 1), 8, .inl (af_30 0)))]) hD hS hA [4, 5] rfl
  refine va_callv (va_runV (As := [.int 2, .int 0]) (rest := []) ⟨hx, hb, hml, hown, hg⟩ (c_X6_give l dC dI (ad_6 1) (ad_6 5) (ad_6 6) (ad_6 7) (ac_7 1) (af_30 0) 2 0 H.size ) (cwV 2 hg (gw_V gm_methodLink_RX9_373_yX6_give gm_instanceMethod_yX6_give gm_selects_RX6_yX6_give_yX6_give gm_initialized_RX6 gm_code_yX6_give_cX6_give_3_none) rfl rfl rfl (by decide +kernel) ⟨Nat.le_of_ble_eq_true rfl, Nat.le_of_ble_eq_true rfl⟩) ⟨fun a U g mk q => by obtain ⟨q0, q1, qP, qK, qD, qN⟩ := q; exact ⟨q0, q1, qP, va_K.moved (u := U) (U := U.calling g mk a) (Vm.Alike.refl U.vm) qK, qD, nx_same (u := U) (U := U.calling g mk a) rfl qN⟩, va_recv hKc hPc (ci := 6) (q0 := 0) rfl rfl, fun U hU hW => ⟨rfl, by rw [hU], by rw [hU]; exact hPc, va_K.moved hW.alike hKc, hDc.weaken (fun _ _ _ _ => trivial), nx_warm hW hN⟩⟩ rfl rfl hl.1 rfl (lv_room (Nat.le_of_ble_eq_true rfl)) dX9_openRun_98 ⟨Nat.le_of_ble_eq_true rfl, Nat.le_of_ble_eq_true rfl⟩) hS (fun q _ h => hFc q h) hFc (fun u_35 t H1 locs ht hvm hw hB hz1 hk1 hS => ?_)
  obtain ⟨ad_36, ac_37, af_38, ag_39⟩ := u_35
  obtain ⟨hP1, hD1, hK1⟩ := hB
  rw [ht] at hP1
  have hK1 := va_K.moved hvm.symm hK1
  obtain ⟨hP, hD⟩ := va_join (wr := [(h0, .inr (9, [.ref y0, .ref y1, .ref y2, .ref y3, .ref y4, .int 0, .ref y5, .int 2, .int 0, .ref y6, .int 0, .ref y7, .int 0, .ref y8, .int 0])), (y1, .inl (k1, 8, .inl (fun _ => 0))), (y4, .inl (k4, 200, .inr (.inr (.inr (.inr (va_up (fun _ => none) (Int32.toNatClampNeg 0) (some q_3))))))), (q_3, .inr (7, [.int 0, .int v1, .int 0, .int (-1), .int 0, .int 0, .int 0, .int (-1), .int 0, .int 0, .ref (ad_6 0), .ref (ad_6 1), .ref (ad_6 2), .ref (ad_6 3), .ref (ad_6 4)]))]) (w1 := [((ad_6 1), .inr (6, [.ref (ad_6 5), .ref (ad_6 6), .ref (ad_6 7)])), ((ad_6 7), .inl ((ac_7 1), 8, .inl (af_38 0)))]) hP hD [4, 5] [0, 1, 2, 3] rfl rfl (by decide) (by decide +kernel) hk1 hFc hP1 hD1
  generalize H1 = H at hP hS ⊢
  have hP : va_P (dC, dI) vwCl [(h0, .inr (9, [.ref y0, .ref y1, .ref y2, .ref y3, .ref y4, .int 0, .ref y5, .int 2, .int 0, .ref y6, .int 0, .ref y7, .int 0, .ref y8, .int 0])), (y1, .inl (k1, 8, .inl (fun _ => 0))), (y4, .inl (k4, 200, .inr (.inr (.inr (.inr (va_up (fun _ => none) (Int32.toNatClampNeg 0) (some q_3))))))), (q_3, .inr (7, [.int 0, .int v1, .int 0, .int (-1), .int 0, .int 0, .int 0, .int (-1), .int 0, .int 0, .ref (ad_6 0), .ref (ad_6 1), .ref (ad_6 2), .ref (ad_6 3), .ref (ad_6 4)])), ((ad_6 1), .inr (6, [.ref (ad_6 5), .ref (ad_6 6), .ref (ad_6 7)])), ((ad_6 7), .inl ((ac_7 1), 8, .inl (af_38 0)))] H := hP
  have hD : va_D A [(h0, .inr (9, [.ref y0, .ref y1, .ref y2, .ref y3, .ref y4, .int 0, .ref y5, .int 2, .int 0, .ref y6, .int 0, .ref y7, .int 0, .ref y8, .int 0])), (y1, .inl (k1, 8, .inl (fun _ => 0))), (y4, .inl (k4, 200, .inr (.inr (.inr (.inr (va_up (fun _ => none) (Int32.toNatClampNeg 0) (some q_3))))))), (q_3, .inr (7, [.int 0, .int v1, .int 0, .int (-1), .int 0, .int 0, .int 0, .int (-1), .int 0, .int 0, .ref (ad_6 0), .ref (ad_6 1), .ref (ad_6 2), .ref (ad_6 3), .ref (ad_6 4)])), ((ad_6 1), .inr (6, [.ref (ad_6 5), .ref (ad_6 6), .ref (ad_6 7)])), ((ad_6 7), .inl ((ac_7 1), 8, .inl (af_38 0)))] := hD
  refine W.widen (k := 16) (n := 228) (Nat.le_of_ble_eq_true rfl) (Nat.le_of_ble_eq_true rfl) ?_
  refine lv_iinc (v := 3) (lv' := [(4, .int 3), (3, .ref q_3), (0, .ref h0), (1, .int v1), (2, .null)]) hx hb dX9_openRun_101 hl (k := 0) rfl (by decide) (by decide) rfl (fun ls hl => ?_)
  refine lv_goto (tgt := 64) hx hb dX9_openRun_104 (by decide) ?_
  refine lv_iload hx hb dX9_openRun_64 (lv_at hl 0 rfl) ?_
  refine lv_bipush (v := 8) hx hb dX9_openRun_66 (by decide) ?_
  refine lv_icmp_ge (tgt := 107) hx hb dX9_openRun_68 (by decide) (fun c_40 => absurd c_40 (by decide)) (fun _ => ?_)
  refine lv_aload_n hx hb dX9_openRun_71 rfl (lv_at hl 1 rfl) ?_
  refine va_get (D := (dC, dI)) (ci := 7) (v := .ref (ad_6 1)) (C := RX7) (T := TX7) (N := 15) hx hb hg gb_7 hown hK hP 3 rfl rfl 11 (by decide) (hg _ gm_fieldLink_RX9_253_ErrandGuild_Run_memory_LErrandGuild_Memory_) (fun _ h9 => h9) rfl dX9_openRun_72 ?_
  refine lv_iload hx hb dX9_openRun_75 (lv_at hl 0 rfl) ?_
  refine lv_aload_nN hx hb dX9_openRun_77 rfl (lv_at hl 4 rfl) ?_
  refine lv_ifnonnullN hx hb dX9_openRun_78 ?_
  refine lv_aload_n hx hb dX9_openRun_81 rfl (lv_at hl 2 rfl) ?_
  refine va_get (D := (dC, dI)) (ci := 9) (v := .ref y1) (C := RX9) (T := TX9) (N := 15) hx hb hg gb_9 hown hK hP 0 rfl rfl 1 (by decide) (hg _ gm_fieldLink_RX9_13_ErrandGuild_firsts_AI_) (fun _ h9 => h9) rfl dX9_openRun_82 ?_
  refine lv_iload hx hb dX9_openRun_85 (lv_at hl 0 rfl) ?_
  refine va_iald hx hb hK hP 1 0 rfl rfl (by unfold vp_in; decide) dX9_openRun_87 ?_
  refine lv_topi (fun z_41 ez_41 => ?_)
  obtain rfl : z_41 = 0 := ez_41
  refine lv_goto (tgt := 98) hx hb dX9_openRun_88 (by decide) ?_
  have hPc := hP.sub (ws' := [((ad_6 1), .inr (6, [.ref (ad_6 5), .ref (ad_6 6), .ref (ad_6 7)])), ((ad_6 7), .inl ((ac_7 1), 8, .inl (af_38 0)))]) [4, 5] rfl
  have hDc := hD.sub (ws' := [((ad_6 1), .inr (6, [.ref (ad_6 5), .ref (ad_6 6), .ref (ad_6 7)])), ((ad_6 7), .inl ((ac_7 1), 8, .inl (af_38 0)))]) [4, 5] (by decide) rfl
  have hKc := hK.sub (tys' := [((ac_7 1), .int)]) [3] rfl
  have hFc := va_free (wc := [((ad_6 1), .inr (6, [.ref (ad_6 5), .ref (ad_6 6), .ref (ad_6 7)])), ((ad_6 7), .inl ((ac_7 1), 8, .inl (af_38 0)))]) hD hS hA [4, 5] rfl
  refine va_callv (va_runV (As := [.int 3, .int 0]) (rest := []) ⟨hx, hb, hml, hown, hg⟩ (c_X6_give l dC dI (ad_6 1) (ad_6 5) (ad_6 6) (ad_6 7) (ac_7 1) (af_38 0) 3 0 H.size ) (cwV 2 hg (gw_V gm_methodLink_RX9_373_yX6_give gm_instanceMethod_yX6_give gm_selects_RX6_yX6_give_yX6_give gm_initialized_RX6 gm_code_yX6_give_cX6_give_3_none) rfl rfl rfl (by decide +kernel) ⟨Nat.le_of_ble_eq_true rfl, Nat.le_of_ble_eq_true rfl⟩) ⟨fun a U g mk q => by obtain ⟨q0, q1, qP, qK, qD, qN⟩ := q; exact ⟨q0, q1, qP, va_K.moved (u := U) (U := U.calling g mk a) (Vm.Alike.refl U.vm) qK, qD, nx_same (u := U) (U := U.calling g mk a) rfl qN⟩, va_recv hKc hPc (ci := 6) (q0 := 0) rfl rfl, fun U hU hW => ⟨rfl, by rw [hU], by rw [hU]; exact hPc, va_K.moved hW.alike hKc, hDc.weaken (fun _ _ _ _ => trivial), nx_warm hW hN⟩⟩ rfl rfl hl.1 rfl (lv_room (Nat.le_of_ble_eq_true rfl)) dX9_openRun_98 ⟨Nat.le_of_ble_eq_true rfl, Nat.le_of_ble_eq_true rfl⟩) hS (fun q _ h => hFc q h) hFc (fun u_43 t H1 locs ht hvm hw hB hz1 hk1 hS => ?_)
  obtain ⟨ad_44, ac_45, af_46, ag_47⟩ := u_43
  obtain ⟨hP1, hD1, hK1⟩ := hB
  rw [ht] at hP1
  have hK1 := va_K.moved hvm.symm hK1
  obtain ⟨hP, hD⟩ := va_join (wr := [(h0, .inr (9, [.ref y0, .ref y1, .ref y2, .ref y3, .ref y4, .int 0, .ref y5, .int 2, .int 0, .ref y6, .int 0, .ref y7, .int 0, .ref y8, .int 0])), (y1, .inl (k1, 8, .inl (fun _ => 0))), (y4, .inl (k4, 200, .inr (.inr (.inr (.inr (va_up (fun _ => none) (Int32.toNatClampNeg 0) (some q_3))))))), (q_3, .inr (7, [.int 0, .int v1, .int 0, .int (-1), .int 0, .int 0, .int 0, .int (-1), .int 0, .int 0, .ref (ad_6 0), .ref (ad_6 1), .ref (ad_6 2), .ref (ad_6 3), .ref (ad_6 4)]))]) (w1 := [((ad_6 1), .inr (6, [.ref (ad_6 5), .ref (ad_6 6), .ref (ad_6 7)])), ((ad_6 7), .inl ((ac_7 1), 8, .inl (af_46 0)))]) hP hD [4, 5] [0, 1, 2, 3] rfl rfl (by decide) (by decide +kernel) hk1 hFc hP1 hD1
  generalize H1 = H at hP hS ⊢
  have hP : va_P (dC, dI) vwCl [(h0, .inr (9, [.ref y0, .ref y1, .ref y2, .ref y3, .ref y4, .int 0, .ref y5, .int 2, .int 0, .ref y6, .int 0, .ref y7, .int 0, .ref y8, .int 0])), (y1, .inl (k1, 8, .inl (fun _ => 0))), (y4, .inl (k4, 200, .inr (.inr (.inr (.inr (va_up (fun _ => none) (Int32.toNatClampNeg 0) (some q_3))))))), (q_3, .inr (7, [.int 0, .int v1, .int 0, .int (-1), .int 0, .int 0, .int 0, .int (-1), .int 0, .int 0, .ref (ad_6 0), .ref (ad_6 1), .ref (ad_6 2), .ref (ad_6 3), .ref (ad_6 4)])), ((ad_6 1), .inr (6, [.ref (ad_6 5), .ref (ad_6 6), .ref (ad_6 7)])), ((ad_6 7), .inl ((ac_7 1), 8, .inl (af_46 0)))] H := hP
  have hD : va_D A [(h0, .inr (9, [.ref y0, .ref y1, .ref y2, .ref y3, .ref y4, .int 0, .ref y5, .int 2, .int 0, .ref y6, .int 0, .ref y7, .int 0, .ref y8, .int 0])), (y1, .inl (k1, 8, .inl (fun _ => 0))), (y4, .inl (k4, 200, .inr (.inr (.inr (.inr (va_up (fun _ => none) (Int32.toNatClampNeg 0) (some q_3))))))), (q_3, .inr (7, [.int 0, .int v1, .int 0, .int (-1), .int 0, .int 0, .int 0, .int (-1), .int 0, .int 0, .ref (ad_6 0), .ref (ad_6 1), .ref (ad_6 2), .ref (ad_6 3), .ref (ad_6 4)])), ((ad_6 1), .inr (6, [.ref (ad_6 5), .ref (ad_6 6), .ref (ad_6 7)])), ((ad_6 7), .inl ((ac_7 1), 8, .inl (af_46 0)))] := hD
  refine W.widen (k := 16) (n := 228) (Nat.le_of_ble_eq_true rfl) (Nat.le_of_ble_eq_true rfl) ?_
  refine lv_iinc (v := 4) (lv' := [(4, .int 4), (3, .ref q_3), (0, .ref h0), (1, .int v1), (2, .null)]) hx hb dX9_openRun_101 hl (k := 0) rfl (by decide) (by decide) rfl (fun ls hl => ?_)
  refine lv_goto (tgt := 64) hx hb dX9_openRun_104 (by decide) ?_
  refine lv_iload hx hb dX9_openRun_64 (lv_at hl 0 rfl) ?_
  refine lv_bipush (v := 8) hx hb dX9_openRun_66 (by decide) ?_
  refine lv_icmp_ge (tgt := 107) hx hb dX9_openRun_68 (by decide) (fun c_48 => absurd c_48 (by decide)) (fun _ => ?_)
  refine lv_aload_n hx hb dX9_openRun_71 rfl (lv_at hl 1 rfl) ?_
  refine va_get (D := (dC, dI)) (ci := 7) (v := .ref (ad_6 1)) (C := RX7) (T := TX7) (N := 15) hx hb hg gb_7 hown hK hP 3 rfl rfl 11 (by decide) (hg _ gm_fieldLink_RX9_253_ErrandGuild_Run_memory_LErrandGuild_Memory_) (fun _ h9 => h9) rfl dX9_openRun_72 ?_
  refine lv_iload hx hb dX9_openRun_75 (lv_at hl 0 rfl) ?_
  refine lv_aload_nN hx hb dX9_openRun_77 rfl (lv_at hl 4 rfl) ?_
  refine lv_ifnonnullN hx hb dX9_openRun_78 ?_
  refine lv_aload_n hx hb dX9_openRun_81 rfl (lv_at hl 2 rfl) ?_
  refine va_get (D := (dC, dI)) (ci := 9) (v := .ref y1) (C := RX9) (T := TX9) (N := 15) hx hb hg gb_9 hown hK hP 0 rfl rfl 1 (by decide) (hg _ gm_fieldLink_RX9_13_ErrandGuild_firsts_AI_) (fun _ h9 => h9) rfl dX9_openRun_82 ?_
  refine lv_iload hx hb dX9_openRun_85 (lv_at hl 0 rfl) ?_
  refine va_iald hx hb hK hP 1 0 rfl rfl (by unfold vp_in; decide) dX9_openRun_87 ?_
  refine lv_topi (fun z_49 ez_49 => ?_)
  obtain rfl : z_49 = 0 := ez_49
  refine lv_goto (tgt := 98) hx hb dX9_openRun_88 (by decide) ?_
  have hPc := hP.sub (ws' := [((ad_6 1), .inr (6, [.ref (ad_6 5), .ref (ad_6 6), .ref (ad_6 7)])), ((ad_6 7), .inl ((ac_7 1), 8, .inl (af_46 0)))]) [4, 5] rfl
  have hDc := hD.sub (ws' := [((ad_6 1), .inr (6, [.ref (ad_6 5), .ref (ad_6 6), .ref (ad_6 7)])), ((ad_6 7), .inl ((ac_7 1), 8, .inl (af_46 0)))]) [4, 5] (by decide) rfl
  have hKc := hK.sub (tys' := [((ac_7 1), .int)]) [3] rfl
  have hFc := va_free (wc := [((ad_6 1), .inr (6, [.ref (ad_6 5), .ref (ad_6 6), .ref (ad_6 7)])), ((ad_6 7), .inl ((ac_7 1), 8, .inl (af_46 0)))]) hD hS hA [4, 5] rfl
  refine va_callv (va_runV (As := [.int 4, .int 0]) (rest := []) ⟨hx, hb, hml, hown, hg⟩ (c_X6_give l dC dI (ad_6 1) (ad_6 5) (ad_6 6) (ad_6 7) (ac_7 1) (af_46 0) 4 0 H.size ) (cwV 2 hg (gw_V gm_methodLink_RX9_373_yX6_give gm_instanceMethod_yX6_give gm_selects_RX6_yX6_give_yX6_give gm_initialized_RX6 gm_code_yX6_give_cX6_give_3_none) rfl rfl rfl (by decide +kernel) ⟨Nat.le_of_ble_eq_true rfl, Nat.le_of_ble_eq_true rfl⟩) ⟨fun a U g mk q => by obtain ⟨q0, q1, qP, qK, qD, qN⟩ := q; exact ⟨q0, q1, qP, va_K.moved (u := U) (U := U.calling g mk a) (Vm.Alike.refl U.vm) qK, qD, nx_same (u := U) (U := U.calling g mk a) rfl qN⟩, va_recv hKc hPc (ci := 6) (q0 := 0) rfl rfl, fun U hU hW => ⟨rfl, by rw [hU], by rw [hU]; exact hPc, va_K.moved hW.alike hKc, hDc.weaken (fun _ _ _ _ => trivial), nx_warm hW hN⟩⟩ rfl rfl hl.1 rfl (lv_room (Nat.le_of_ble_eq_true rfl)) dX9_openRun_98 ⟨Nat.le_of_ble_eq_true rfl, Nat.le_of_ble_eq_true rfl⟩) hS (fun q _ h => hFc q h) hFc (fun u_51 t H1 locs ht hvm hw hB hz1 hk1 hS => ?_)
  obtain ⟨ad_52, ac_53, af_54, ag_55⟩ := u_51
  obtain ⟨hP1, hD1, hK1⟩ := hB
  rw [ht] at hP1
  have hK1 := va_K.moved hvm.symm hK1
  obtain ⟨hP, hD⟩ := va_join (wr := [(h0, .inr (9, [.ref y0, .ref y1, .ref y2, .ref y3, .ref y4, .int 0, .ref y5, .int 2, .int 0, .ref y6, .int 0, .ref y7, .int 0, .ref y8, .int 0])), (y1, .inl (k1, 8, .inl (fun _ => 0))), (y4, .inl (k4, 200, .inr (.inr (.inr (.inr (va_up (fun _ => none) (Int32.toNatClampNeg 0) (some q_3))))))), (q_3, .inr (7, [.int 0, .int v1, .int 0, .int (-1), .int 0, .int 0, .int 0, .int (-1), .int 0, .int 0, .ref (ad_6 0), .ref (ad_6 1), .ref (ad_6 2), .ref (ad_6 3), .ref (ad_6 4)]))]) (w1 := [((ad_6 1), .inr (6, [.ref (ad_6 5), .ref (ad_6 6), .ref (ad_6 7)])), ((ad_6 7), .inl ((ac_7 1), 8, .inl (af_54 0)))]) hP hD [4, 5] [0, 1, 2, 3] rfl rfl (by decide) (by decide +kernel) hk1 hFc hP1 hD1
  generalize H1 = H at hP hS ⊢
  have hP : va_P (dC, dI) vwCl [(h0, .inr (9, [.ref y0, .ref y1, .ref y2, .ref y3, .ref y4, .int 0, .ref y5, .int 2, .int 0, .ref y6, .int 0, .ref y7, .int 0, .ref y8, .int 0])), (y1, .inl (k1, 8, .inl (fun _ => 0))), (y4, .inl (k4, 200, .inr (.inr (.inr (.inr (va_up (fun _ => none) (Int32.toNatClampNeg 0) (some q_3))))))), (q_3, .inr (7, [.int 0, .int v1, .int 0, .int (-1), .int 0, .int 0, .int 0, .int (-1), .int 0, .int 0, .ref (ad_6 0), .ref (ad_6 1), .ref (ad_6 2), .ref (ad_6 3), .ref (ad_6 4)])), ((ad_6 1), .inr (6, [.ref (ad_6 5), .ref (ad_6 6), .ref (ad_6 7)])), ((ad_6 7), .inl ((ac_7 1), 8, .inl (af_54 0)))] H := hP
  have hD : va_D A [(h0, .inr (9, [.ref y0, .ref y1, .ref y2, .ref y3, .ref y4, .int 0, .ref y5, .int 2, .int 0, .ref y6, .int 0, .ref y7, .int 0, .ref y8, .int 0])), (y1, .inl (k1, 8, .inl (fun _ => 0))), (y4, .inl (k4, 200, .inr (.inr (.inr (.inr (va_up (fun _ => none) (Int32.toNatClampNeg 0) (some q_3))))))), (q_3, .inr (7, [.int 0, .int v1, .int 0, .int (-1), .int 0, .int 0, .int 0, .int (-1), .int 0, .int 0, .ref (ad_6 0), .ref (ad_6 1), .ref (ad_6 2), .ref (ad_6 3), .ref (ad_6 4)])), ((ad_6 1), .inr (6, [.ref (ad_6 5), .ref (ad_6 6), .ref (ad_6 7)])), ((ad_6 7), .inl ((ac_7 1), 8, .inl (af_54 0)))] := hD
  refine W.widen (k := 16) (n := 228) (Nat.le_of_ble_eq_true rfl) (Nat.le_of_ble_eq_true rfl) ?_
  refine lv_iinc (v := 5) (lv' := [(4, .int 5), (3, .ref q_3), (0, .ref h0), (1, .int v1), (2, .null)]) hx hb dX9_openRun_101 hl (k := 0) rfl (by decide) (by decide) rfl (fun ls hl => ?_)
  refine lv_goto (tgt := 64) hx hb dX9_openRun_104 (by decide) ?_
  refine lv_iload hx hb dX9_openRun_64 (lv_at hl 0 rfl) ?_
  refine lv_bipush (v := 8) hx hb dX9_openRun_66 (by decide) ?_
  refine lv_icmp_ge (tgt := 107) hx hb dX9_openRun_68 (by decide) (fun c_56 => absurd c_56 (by decide)) (fun _ => ?_)
  refine lv_aload_n hx hb dX9_openRun_71 rfl (lv_at hl 1 rfl) ?_
  refine va_get (D := (dC, dI)) (ci := 7) (v := .ref (ad_6 1)) (C := RX7) (T := TX7) (N := 15) hx hb hg gb_7 hown hK hP 3 rfl rfl 11 (by decide) (hg _ gm_fieldLink_RX9_253_ErrandGuild_Run_memory_LErrandGuild_Memory_) (fun _ h9 => h9) rfl dX9_openRun_72 ?_
  refine lv_iload hx hb dX9_openRun_75 (lv_at hl 0 rfl) ?_
  refine lv_aload_nN hx hb dX9_openRun_77 rfl (lv_at hl 4 rfl) ?_
  refine lv_ifnonnullN hx hb dX9_openRun_78 ?_
  refine lv_aload_n hx hb dX9_openRun_81 rfl (lv_at hl 2 rfl) ?_
  refine va_get (D := (dC, dI)) (ci := 9) (v := .ref y1) (C := RX9) (T := TX9) (N := 15) hx hb hg gb_9 hown hK hP 0 rfl rfl 1 (by decide) (hg _ gm_fieldLink_RX9_13_ErrandGuild_firsts_AI_) (fun _ h9 => h9) rfl dX9_openRun_82 ?_
  refine lv_iload hx hb dX9_openRun_85 (lv_at hl 0 rfl) ?_
  refine va_iald hx hb hK hP 1 0 rfl rfl (by unfold vp_in; decide) dX9_openRun_87 ?_
  refine lv_topi (fun z_57 ez_57 => ?_)
  obtain rfl : z_57 = 0 := ez_57
  refine lv_goto (tgt := 98) hx hb dX9_openRun_88 (by decide) ?_
  have hPc := hP.sub (ws' := [((ad_6 1), .inr (6, [.ref (ad_6 5), .ref (ad_6 6), .ref (ad_6 7)])), ((ad_6 7), .inl ((ac_7 1), 8, .inl (af_54 0)))]) [4, 5] rfl
  have hDc := hD.sub (ws' := [((ad_6 1), .inr (6, [.ref (ad_6 5), .ref (ad_6 6), .ref (ad_6 7)])), ((ad_6 7), .inl ((ac_7 1), 8, .inl (af_54 0)))]) [4, 5] (by decide) rfl
  have hKc := hK.sub (tys' := [((ac_7 1), .int)]) [3] rfl
  have hFc := va_free (wc := [((ad_6 1), .inr (6, [.ref (ad_6 5), .ref (ad_6 6), .ref (ad_6 7)])), ((ad_6 7), .inl ((ac_7 1), 8, .inl (af_54 0)))]) hD hS hA [4, 5] rfl
  refine va_callv (va_runV (As := [.int 5, .int 0]) (rest := []) ⟨hx, hb, hml, hown, hg⟩ (c_X6_give l dC dI (ad_6 1) (ad_6 5) (ad_6 6) (ad_6 7) (ac_7 1) (af_54 0) 5 0 H.size ) (cwV 2 hg (gw_V gm_methodLink_RX9_373_yX6_give gm_instanceMethod_yX6_give gm_selects_RX6_yX6_give_yX6_give gm_initialized_RX6 gm_code_yX6_give_cX6_give_3_none) rfl rfl rfl (by decide +kernel) ⟨Nat.le_of_ble_eq_true rfl, Nat.le_of_ble_eq_true rfl⟩) ⟨fun a U g mk q => by obtain ⟨q0, q1, qP, qK, qD, qN⟩ := q; exact ⟨q0, q1, qP, va_K.moved (u := U) (U := U.calling g mk a) (Vm.Alike.refl U.vm) qK, qD, nx_same (u := U) (U := U.calling g mk a) rfl qN⟩, va_recv hKc hPc (ci := 6) (q0 := 0) rfl rfl, fun U hU hW => ⟨rfl, by rw [hU], by rw [hU]; exact hPc, va_K.moved hW.alike hKc, hDc.weaken (fun _ _ _ _ => trivial), nx_warm hW hN⟩⟩ rfl rfl hl.1 rfl (lv_room (Nat.le_of_ble_eq_true rfl)) dX9_openRun_98 ⟨Nat.le_of_ble_eq_true rfl, Nat.le_of_ble_eq_true rfl⟩) hS (fun q _ h => hFc q h) hFc (fun u_59 t H1 locs ht hvm hw hB hz1 hk1 hS => ?_)
  obtain ⟨ad_60, ac_61, af_62, ag_63⟩ := u_59
  obtain ⟨hP1, hD1, hK1⟩ := hB
  rw [ht] at hP1
  have hK1 := va_K.moved hvm.symm hK1
  obtain ⟨hP, hD⟩ := va_join (wr := [(h0, .inr (9, [.ref y0, .ref y1, .ref y2, .ref y3, .ref y4, .int 0, .ref y5, .int 2, .int 0, .ref y6, .int 0, .ref y7, .int 0, .ref y8, .int 0])), (y1, .inl (k1, 8, .inl (fun _ => 0))), (y4, .inl (k4, 200, .inr (.inr (.inr (.inr (va_up (fun _ => none) (Int32.toNatClampNeg 0) (some q_3))))))), (q_3, .inr (7, [.int 0, .int v1, .int 0, .int (-1), .int 0, .int 0, .int 0, .int (-1), .int 0, .int 0, .ref (ad_6 0), .ref (ad_6 1), .ref (ad_6 2), .ref (ad_6 3), .ref (ad_6 4)]))]) (w1 := [((ad_6 1), .inr (6, [.ref (ad_6 5), .ref (ad_6 6), .ref (ad_6 7)])), ((ad_6 7), .inl ((ac_7 1), 8, .inl (af_62 0)))]) hP hD [4, 5] [0, 1, 2, 3] rfl rfl (by decide) (by decide +kernel) hk1 hFc hP1 hD1
  generalize H1 = H at hP hS ⊢
  have hP : va_P (dC, dI) vwCl [(h0, .inr (9, [.ref y0, .ref y1, .ref y2, .ref y3, .ref y4, .int 0, .ref y5, .int 2, .int 0, .ref y6, .int 0, .ref y7, .int 0, .ref y8, .int 0])), (y1, .inl (k1, 8, .inl (fun _ => 0))), (y4, .inl (k4, 200, .inr (.inr (.inr (.inr (va_up (fun _ => none) (Int32.toNatClampNeg 0) (some q_3))))))), (q_3, .inr (7, [.int 0, .int v1, .int 0, .int (-1), .int 0, .int 0, .int 0, .int (-1), .int 0, .int 0, .ref (ad_6 0), .ref (ad_6 1), .ref (ad_6 2), .ref (ad_6 3), .ref (ad_6 4)])), ((ad_6 1), .inr (6, [.ref (ad_6 5), .ref (ad_6 6), .ref (ad_6 7)])), ((ad_6 7), .inl ((ac_7 1), 8, .inl (af_62 0)))] H := hP
  have hD : va_D A [(h0, .inr (9, [.ref y0, .ref y1, .ref y2, .ref y3, .ref y4, .int 0, .ref y5, .int 2, .int 0, .ref y6, .int 0, .ref y7, .int 0, .ref y8, .int 0])), (y1, .inl (k1, 8, .inl (fun _ => 0))), (y4, .inl (k4, 200, .inr (.inr (.inr (.inr (va_up (fun _ => none) (Int32.toNatClampNeg 0) (some q_3))))))), (q_3, .inr (7, [.int 0, .int v1, .int 0, .int (-1), .int 0, .int 0, .int 0, .int (-1), .int 0, .int 0, .ref (ad_6 0), .ref (ad_6 1), .ref (ad_6 2), .ref (ad_6 3), .ref (ad_6 4)])), ((ad_6 1), .inr (6, [.ref (ad_6 5), .ref (ad_6 6), .ref (ad_6 7)])), ((ad_6 7), .inl ((ac_7 1), 8, .inl (af_62 0)))] := hD
  refine W.widen (k := 16) (n := 228) (Nat.le_of_ble_eq_true rfl) (Nat.le_of_ble_eq_true rfl) ?_
  refine lv_iinc (v := 6) (lv' := [(4, .int 6), (3, .ref q_3), (0, .ref h0), (1, .int v1), (2, .null)]) hx hb dX9_openRun_101 hl (k := 0) rfl (by decide) (by decide) rfl (fun ls hl => ?_)
  refine lv_goto (tgt := 64) hx hb dX9_openRun_104 (by decide) ?_
  refine lv_iload hx hb dX9_openRun_64 (lv_at hl 0 rfl) ?_
  refine lv_bipush (v := 8) hx hb dX9_openRun_66 (by decide) ?_
  refine lv_icmp_ge (tgt := 107) hx hb dX9_openRun_68 (by decide) (fun c_64 => absurd c_64 (by decide)) (fun _ => ?_)
  refine lv_aload_n hx hb dX9_openRun_71 rfl (lv_at hl 1 rfl) ?_
  refine va_get (D := (dC, dI)) (ci := 7) (v := .ref (ad_6 1)) (C := RX7) (T := TX7) (N := 15) hx hb hg gb_7 hown hK hP 3 rfl rfl 11 (by decide) (hg _ gm_fieldLink_RX9_253_ErrandGuild_Run_memory_LErrandGuild_Memory_) (fun _ h9 => h9) rfl dX9_openRun_72 ?_
  refine lv_iload hx hb dX9_openRun_75 (lv_at hl 0 rfl) ?_
  refine lv_aload_nN hx hb dX9_openRun_77 rfl (lv_at hl 4 rfl) ?_
  refine lv_ifnonnullN hx hb dX9_openRun_78 ?_
  refine lv_aload_n hx hb dX9_openRun_81 rfl (lv_at hl 2 rfl) ?_
  refine va_get (D := (dC, dI)) (ci := 9) (v := .ref y1) (C := RX9) (T := TX9) (N := 15) hx hb hg gb_9 hown hK hP 0 rfl rfl 1 (by decide) (hg _ gm_fieldLink_RX9_13_ErrandGuild_firsts_AI_) (fun _ h9 => h9) rfl dX9_openRun_82 ?_
  refine lv_iload hx hb dX9_openRun_85 (lv_at hl 0 rfl) ?_
  refine va_iald hx hb hK hP 1 0 rfl rfl (by unfold vp_in; decide) dX9_openRun_87 ?_
  refine lv_topi (fun z_65 ez_65 => ?_)
  obtain rfl : z_65 = 0 := ez_65
  refine lv_goto (tgt := 98) hx hb dX9_openRun_88 (by decide) ?_
  have hPc := hP.sub (ws' := [((ad_6 1), .inr (6, [.ref (ad_6 5), .ref (ad_6 6), .ref (ad_6 7)])), ((ad_6 7), .inl ((ac_7 1), 8, .inl (af_62 0)))]) [4, 5] rfl
  have hDc := hD.sub (ws' := [((ad_6 1), .inr (6, [.ref (ad_6 5), .ref (ad_6 6), .ref (ad_6 7)])), ((ad_6 7), .inl ((ac_7 1), 8, .inl (af_62 0)))]) [4, 5] (by decide) rfl
  have hKc := hK.sub (tys' := [((ac_7 1), .int)]) [3] rfl
  have hFc := va_free (wc := [((ad_6 1), .inr (6, [.ref (ad_6 5), .ref (ad_6 6), .ref (ad_6 7)])), ((ad_6 7), .inl ((ac_7 1), 8, .inl (af_62 0)))]) hD hS hA [4, 5] rfl
  refine va_callv (va_runV (As := [.int 6, .int 0]) (rest := []) ⟨hx, hb, hml, hown, hg⟩ (c_X6_give l dC dI (ad_6 1) (ad_6 5) (ad_6 6) (ad_6 7) (ac_7 1) (af_62 0) 6 0 H.size ) (cwV 2 hg (gw_V gm_methodLink_RX9_373_yX6_give gm_instanceMethod_yX6_give gm_selects_RX6_yX6_give_yX6_give gm_initialized_RX6 gm_code_yX6_give_cX6_give_3_none) rfl rfl rfl (by decide +kernel) ⟨Nat.le_of_ble_eq_true rfl, Nat.le_of_ble_eq_true rfl⟩) ⟨fun a U g mk q => by obtain ⟨q0, q1, qP, qK, qD, qN⟩ := q; exact ⟨q0, q1, qP, va_K.moved (u := U) (U := U.calling g mk a) (Vm.Alike.refl U.vm) qK, qD, nx_same (u := U) (U := U.calling g mk a) rfl qN⟩, va_recv hKc hPc (ci := 6) (q0 := 0) rfl rfl, fun U hU hW => ⟨rfl, by rw [hU], by rw [hU]; exact hPc, va_K.moved hW.alike hKc, hDc.weaken (fun _ _ _ _ => trivial), nx_warm hW hN⟩⟩ rfl rfl hl.1 rfl (lv_room (Nat.le_of_ble_eq_true rfl)) dX9_openRun_98 ⟨Nat.le_of_ble_eq_true rfl, Nat.le_of_ble_eq_true rfl⟩) hS (fun q _ h => hFc q h) hFc (fun u_67 t H1 locs ht hvm hw hB hz1 hk1 hS => ?_)
  obtain ⟨ad_68, ac_69, af_70, ag_71⟩ := u_67
  obtain ⟨hP1, hD1, hK1⟩ := hB
  rw [ht] at hP1
  have hK1 := va_K.moved hvm.symm hK1
  obtain ⟨hP, hD⟩ := va_join (wr := [(h0, .inr (9, [.ref y0, .ref y1, .ref y2, .ref y3, .ref y4, .int 0, .ref y5, .int 2, .int 0, .ref y6, .int 0, .ref y7, .int 0, .ref y8, .int 0])), (y1, .inl (k1, 8, .inl (fun _ => 0))), (y4, .inl (k4, 200, .inr (.inr (.inr (.inr (va_up (fun _ => none) (Int32.toNatClampNeg 0) (some q_3))))))), (q_3, .inr (7, [.int 0, .int v1, .int 0, .int (-1), .int 0, .int 0, .int 0, .int (-1), .int 0, .int 0, .ref (ad_6 0), .ref (ad_6 1), .ref (ad_6 2), .ref (ad_6 3), .ref (ad_6 4)]))]) (w1 := [((ad_6 1), .inr (6, [.ref (ad_6 5), .ref (ad_6 6), .ref (ad_6 7)])), ((ad_6 7), .inl ((ac_7 1), 8, .inl (af_70 0)))]) hP hD [4, 5] [0, 1, 2, 3] rfl rfl (by decide) (by decide +kernel) hk1 hFc hP1 hD1
  generalize H1 = H at hP hS ⊢
  have hP : va_P (dC, dI) vwCl [(h0, .inr (9, [.ref y0, .ref y1, .ref y2, .ref y3, .ref y4, .int 0, .ref y5, .int 2, .int 0, .ref y6, .int 0, .ref y7, .int 0, .ref y8, .int 0])), (y1, .inl (k1, 8, .inl (fun _ => 0))), (y4, .inl (k4, 200, .inr (.inr (.inr (.inr (va_up (fun _ => none) (Int32.toNatClampNeg 0) (some q_3))))))), (q_3, .inr (7, [.int 0, .int v1, .int 0, .int (-1), .int 0, .int 0, .int 0, .int (-1), .int 0, .int 0, .ref (ad_6 0), .ref (ad_6 1), .ref (ad_6 2), .ref (ad_6 3), .ref (ad_6 4)])), ((ad_6 1), .inr (6, [.ref (ad_6 5), .ref (ad_6 6), .ref (ad_6 7)])), ((ad_6 7), .inl ((ac_7 1), 8, .inl (af_70 0)))] H := hP
  have hD : va_D A [(h0, .inr (9, [.ref y0, .ref y1, .ref y2, .ref y3, .ref y4, .int 0, .ref y5, .int 2, .int 0, .ref y6, .int 0, .ref y7, .int 0, .ref y8, .int 0])), (y1, .inl (k1, 8, .inl (fun _ => 0))), (y4, .inl (k4, 200, .inr (.inr (.inr (.inr (va_up (fun _ => none) (Int32.toNatClampNeg 0) (some q_3))))))), (q_3, .inr (7, [.int 0, .int v1, .int 0, .int (-1), .int 0, .int 0, .int 0, .int (-1), .int 0, .int 0, .ref (ad_6 0), .ref (ad_6 1), .ref (ad_6 2), .ref (ad_6 3), .ref (ad_6 4)])), ((ad_6 1), .inr (6, [.ref (ad_6 5), .ref (ad_6 6), .ref (ad_6 7)])), ((ad_6 7), .inl ((ac_7 1), 8, .inl (af_70 0)))] := hD
  refine W.widen (k := 16) (n := 228) (Nat.le_of_ble_eq_true rfl) (Nat.le_of_ble_eq_true rfl) ?_
  refine lv_iinc (v := 7) (lv' := [(4, .int 7), (3, .ref q_3), (0, .ref h0), (1, .int v1), (2, .null)]) hx hb dX9_openRun_101 hl (k := 0) rfl (by decide) (by decide) rfl (fun ls hl => ?_)
  refine lv_goto (tgt := 64) hx hb dX9_openRun_104 (by decide) ?_
  refine lv_iload hx hb dX9_openRun_64 (lv_at hl 0 rfl) ?_
  refine lv_bipush (v := 8) hx hb dX9_openRun_66 (by decide) ?_
  refine lv_icmp_ge (tgt := 107) hx hb dX9_openRun_68 (by decide) (fun c_72 => absurd c_72 (by decide)) (fun _ => ?_)
  refine lv_aload_n hx hb dX9_openRun_71 rfl (lv_at hl 1 rfl) ?_
  refine va_get (D := (dC, dI)) (ci := 7) (v := .ref (ad_6 1)) (C := RX7) (T := TX7) (N := 15) hx hb hg gb_7 hown hK hP 3 rfl rfl 11 (by decide) (hg _ gm_fieldLink_RX9_253_ErrandGuild_Run_memory_LErrandGuild_Memory_) (fun _ h9 => h9) rfl dX9_openRun_72 ?_
  refine lv_iload hx hb dX9_openRun_75 (lv_at hl 0 rfl) ?_
  refine lv_aload_nN hx hb dX9_openRun_77 rfl (lv_at hl 4 rfl) ?_
  refine lv_ifnonnullN hx hb dX9_openRun_78 ?_
  refine lv_aload_n hx hb dX9_openRun_81 rfl (lv_at hl 2 rfl) ?_
  refine va_get (D := (dC, dI)) (ci := 9) (v := .ref y1) (C := RX9) (T := TX9) (N := 15) hx hb hg gb_9 hown hK hP 0 rfl rfl 1 (by decide) (hg _ gm_fieldLink_RX9_13_ErrandGuild_firsts_AI_) (fun _ h9 => h9) rfl dX9_openRun_82 ?_
  refine lv_iload hx hb dX9_openRun_85 (lv_at hl 0 rfl) ?_
  refine va_iald hx hb hK hP 1 0 rfl rfl (by unfold vp_in; decide) dX9_openRun_87 ?_
  refine lv_topi (fun z_73 ez_73 => ?_)
  obtain rfl : z_73 = 0 := ez_73
  refine lv_goto (tgt := 98) hx hb dX9_openRun_88 (by decide) ?_
  have hPc := hP.sub (ws' := [((ad_6 1), .inr (6, [.ref (ad_6 5), .ref (ad_6 6), .ref (ad_6 7)])), ((ad_6 7), .inl ((ac_7 1), 8, .inl (af_70 0)))]) [4, 5] rfl
  have hDc := hD.sub (ws' := [((ad_6 1), .inr (6, [.ref (ad_6 5), .ref (ad_6 6), .ref (ad_6 7)])), ((ad_6 7), .inl ((ac_7 1), 8, .inl (af_70 0)))]) [4, 5] (by decide) rfl
  have hKc := hK.sub (tys' := [((ac_7 1), .int)]) [3] rfl
  have hFc := va_free (wc := [((ad_6 1), .inr (6, [.ref (ad_6 5), .ref (ad_6 6), .ref (ad_6 7)])), ((ad_6 7), .inl ((ac_7 1), 8, .inl (af_70 0)))]) hD hS hA [4, 5] rfl
  refine va_callv (va_runV (As := [.int 7, .int 0]) (rest := []) ⟨hx, hb, hml, hown, hg⟩ (c_X6_give l dC dI (ad_6 1) (ad_6 5) (ad_6 6) (ad_6 7) (ac_7 1) (af_70 0) 7 0 H.size ) (cwV 2 hg (gw_V gm_methodLink_RX9_373_yX6_give gm_instanceMethod_yX6_give gm_selects_RX6_yX6_give_yX6_give gm_initialized_RX6 gm_code_yX6_give_cX6_give_3_none) rfl rfl rfl (by decide +kernel) ⟨Nat.le_of_ble_eq_true rfl, Nat.le_of_ble_eq_true rfl⟩) ⟨fun a U g mk q => by obtain ⟨q0, q1, qP, qK, qD, qN⟩ := q; exact ⟨q0, q1, qP, va_K.moved (u := U) (U := U.calling g mk a) (Vm.Alike.refl U.vm) qK, qD, nx_same (u := U) (U := U.calling g mk a) rfl qN⟩, va_recv hKc hPc (ci := 6) (q0 := 0) rfl rfl, fun U hU hW => ⟨rfl, by rw [hU], by rw [hU]; exact hPc, va_K.moved hW.alike hKc, hDc.weaken (fun _ _ _ _ => trivial), nx_warm hW hN⟩⟩ rfl rfl hl.1 rfl (lv_room (Nat.le_of_ble_eq_true rfl)) dX9_openRun_98 ⟨Nat.le_of_ble_eq_true rfl, Nat.le_of_ble_eq_true rfl⟩) hS (fun q _ h => hFc q h) hFc (fun u_75 t H1 locs ht hvm hw hB hz1 hk1 hS => ?_)
  obtain ⟨ad_76, ac_77, af_78, ag_79⟩ := u_75
  obtain ⟨hP1, hD1, hK1⟩ := hB
  rw [ht] at hP1
  have hK1 := va_K.moved hvm.symm hK1
  obtain ⟨hP, hD⟩ := va_join (wr := [(h0, .inr (9, [.ref y0, .ref y1, .ref y2, .ref y3, .ref y4, .int 0, .ref y5, .int 2, .int 0, .ref y6, .int 0, .ref y7, .int 0, .ref y8, .int 0])), (y1, .inl (k1, 8, .inl (fun _ => 0))), (y4, .inl (k4, 200, .inr (.inr (.inr (.inr (va_up (fun _ => none) (Int32.toNatClampNeg 0) (some q_3))))))), (q_3, .inr (7, [.int 0, .int v1, .int 0, .int (-1), .int 0, .int 0, .int 0, .int (-1), .int 0, .int 0, .ref (ad_6 0), .ref (ad_6 1), .ref (ad_6 2), .ref (ad_6 3), .ref (ad_6 4)]))]) (w1 := [((ad_6 1), .inr (6, [.ref (ad_6 5), .ref (ad_6 6), .ref (ad_6 7)])), ((ad_6 7), .inl ((ac_7 1), 8, .inl (af_78 0)))]) hP hD [4, 5] [0, 1, 2, 3] rfl rfl (by decide) (by decide +kernel) hk1 hFc hP1 hD1
  generalize H1 = H at hP hS ⊢
  have hP : va_P (dC, dI) vwCl [(h0, .inr (9, [.ref y0, .ref y1, .ref y2, .ref y3, .ref y4, .int 0, .ref y5, .int 2, .int 0, .ref y6, .int 0, .ref y7, .int 0, .ref y8, .int 0])), (y1, .inl (k1, 8, .inl (fun _ => 0))), (y4, .inl (k4, 200, .inr (.inr (.inr (.inr (va_up (fun _ => none) (Int32.toNatClampNeg 0) (some q_3))))))), (q_3, .inr (7, [.int 0, .int v1, .int 0, .int (-1), .int 0, .int 0, .int 0, .int (-1), .int 0, .int 0, .ref (ad_6 0), .ref (ad_6 1), .ref (ad_6 2), .ref (ad_6 3), .ref (ad_6 4)])), ((ad_6 1), .inr (6, [.ref (ad_6 5), .ref (ad_6 6), .ref (ad_6 7)])), ((ad_6 7), .inl ((ac_7 1), 8, .inl (af_78 0)))] H := hP
  have hD : va_D A [(h0, .inr (9, [.ref y0, .ref y1, .ref y2, .ref y3, .ref y4, .int 0, .ref y5, .int 2, .int 0, .ref y6, .int 0, .ref y7, .int 0, .ref y8, .int 0])), (y1, .inl (k1, 8, .inl (fun _ => 0))), (y4, .inl (k4, 200, .inr (.inr (.inr (.inr (va_up (fun _ => none) (Int32.toNatClampNeg 0) (some q_3))))))), (q_3, .inr (7, [.int 0, .int v1, .int 0, .int (-1), .int 0, .int 0, .int 0, .int (-1), .int 0, .int 0, .ref (ad_6 0), .ref (ad_6 1), .ref (ad_6 2), .ref (ad_6 3), .ref (ad_6 4)])), ((ad_6 1), .inr (6, [.ref (ad_6 5), .ref (ad_6 6), .ref (ad_6 7)])), ((ad_6 7), .inl ((ac_7 1), 8, .inl (af_78 0)))] := hD
  refine W.widen (k := 16) (n := 228) (Nat.le_of_ble_eq_true rfl) (Nat.le_of_ble_eq_true rfl) ?_
  refine lv_iinc (v := 8) (lv' := [(4, .int 8), (3, .ref q_3), (0, .ref h0), (1, .int v1), (2, .null)]) hx hb dX9_openRun_101 hl (k := 0) rfl (by decide) (by decide) rfl (fun ls hl => ?_)
  refine lv_goto (tgt := 64) hx hb dX9_openRun_104 (by decide) ?_
  refine lv_iload hx hb dX9_openRun_64 (lv_at hl 0 rfl) ?_
  refine lv_bipush (v := 8) hx hb dX9_openRun_66 (by decide) ?_
  refine lv_icmp_ge (tgt := 107) hx hb dX9_openRun_68 (by decide) (fun _ => ?_) (fun c_80 => absurd c_80 (by decide))
  refine lv_aload_n hx hb dX9_openRun_107 rfl (lv_at hl 2 rfl) ?_
  refine lv_dup hx hb dX9_openRun_108 rfl ?_
  refine va_get (D := (dC, dI)) (ci := 9) (v := .int 0) (C := RX9) (T := TX9) (N := 15) hx hb hg gb_9 hown hK hP 0 rfl rfl 5 (by decide) (hg _ gm_fieldLink_RX9_66_ErrandGuild_runCount_I_) (fun _ h9 => h9) rfl dX9_openRun_109 ?_
  refine lv_iconst (v := 1) hx hb dX9_openRun_112 (by decide) ?_
  refine lv_iadd hx hb dX9_openRun_113 ?_
  refine lv_topi (fun z_81 ez_81 => ?_)
  obtain rfl : z_81 = 1 := ez_81.trans (by decide)
  refine va_put (D := (dC, dI)) (ci := 9) (v := .int 1) (ty := .int) (C := RX9) (T := TX9) (N := 15) hx hb hg gb_9 tyX9 tyX9_ok nmX9 hown hK hP hD hS 0 rfl rfl 5 (by decide) (hg _ gm_fieldLink_RX9_66_ErrandGuild_runCount_I_) (fun _ h9 => h9) rfl (by decide +kernel) rfl rfl (Nat.le_of_ble_eq_true rfl) dX9_openRun_114 (fun H locs hP hD hS => ?_)
  have hP : va_P (dC, dI) vwCl [(h0, .inr (9, [.ref y0, .ref y1, .ref y2, .ref y3, .ref y4, .int 1, .ref y5, .int 2, .int 0, .ref y6, .int 0, .ref y7, .int 0, .ref y8, .int 0])), (y1, .inl (k1, 8, .inl (fun _ => 0))), (y4, .inl (k4, 200, .inr (.inr (.inr (.inr (va_up (fun _ => none) (Int32.toNatClampNeg 0) (some q_3))))))), (q_3, .inr (7, [.int 0, .int v1, .int 0, .int (-1), .int 0, .int 0, .int 0, .int (-1), .int 0, .int 0, .ref (ad_6 0), .ref (ad_6 1), .ref (ad_6 2), .ref (ad_6 3), .ref (ad_6 4)])), ((ad_6 1), .inr (6, [.ref (ad_6 5), .ref (ad_6 6), .ref (ad_6 7)])), ((ad_6 7), .inl ((ac_7 1), 8, .inl (af_78 0)))] H := hP
  have hD : va_D A [(h0, .inr (9, [.ref y0, .ref y1, .ref y2, .ref y3, .ref y4, .int 1, .ref y5, .int 2, .int 0, .ref y6, .int 0, .ref y7, .int 0, .ref y8, .int 0])), (y1, .inl (k1, 8, .inl (fun _ => 0))), (y4, .inl (k4, 200, .inr (.inr (.inr (.inr (va_up (fun _ => none) (Int32.toNatClampNeg 0) (some q_3))))))), (q_3, .inr (7, [.int 0, .int v1, .int 0, .int (-1), .int 0, .int 0, .int 0, .int (-1), .int 0, .int 0, .ref (ad_6 0), .ref (ad_6 1), .ref (ad_6 2), .ref (ad_6 3), .ref (ad_6 4)])), ((ad_6 1), .inr (6, [.ref (ad_6 5), .ref (ad_6 6), .ref (ad_6 7)])), ((ad_6 7), .inl ((ac_7 1), 8, .inl (af_78 0)))] := hD
  refine lv_aload_n hx hb dX9_openRun_117 rfl (lv_at hl 1 rfl) ?_
  have hP9 := hP.sub (ws' := [(q_3, .inr (7, [.int 0, .int v1, .int 0, .int (-1), .int 0, .int 0, .int 0, .int (-1), .int 0, .int 0, .ref (ad_6 0), .ref (ad_6 1), .ref (ad_6 2), .ref (ad_6 3), .ref (ad_6 4)]))]) [3] rfl
  have hD9 := hD.sub (ws' := [(q_3, .inr (7, [.int 0, .int v1, .int 0, .int (-1), .int 0, .int 0, .int 0, .int (-1), .int 0, .int 0, .ref (ad_6 0), .ref (ad_6 1), .ref (ad_6 2), .ref (ad_6 3), .ref (ad_6 4)]))]) [3] (by decide) rfl
  have hK9 := hK.sub (tys' := []) [] rfl
  exact W.aret (v := .ref q_3) hx hb hr (Or.inl ⟨_, rfl⟩) (Or.inr ⟨_, rfl⟩) (fun t ht hW => ⟨⟨some q_3, ((fun k => ([q_3, (ad_6 0), (ad_6 1), (ad_6 2), (ad_6 3), (ad_6 4)] : List Nat).getD k 0), (fun _ => (dC 0)), (fun _ => (fun _ => 0)), (fun _ => (fun _ => none))), rfl, rfl, by rw [ht]; exact hP9, hD9, va_K.moved hW.alike hK9⟩, hS.F ht⟩) hS.2.2 dX9_openRun_118

set_option maxHeartbeats 4000000 in
set_option maxRecDepth 100000 in
theorem c_X9_submit (l : Launch) (dC : Nat → ClassId) (dI : Nat → Nat → Nat) (h0 : Nat) (y0 : Nat) (y1 : Nat) (y2 : Nat) (y3 : Nat) (y4 : Nat) (y5 : Nat) (y6 : Nat) (y7 : Nat) (y8 : Nat) (k1 : ClassId) (k4 : ClassId) (v1 : Int32) (sz : Nat)  : Met l yX9_submit (.code yX9_submit cX9_submit 3 (some .int) :: gw) ({ frames := 4, cells := 16, slots := 228, locals := 86 }) (va_Pc [.ref h0, .int v1] (fun U => U.heap.size = sz ∧ va_P (dC, dI) vwCl [(h0, .inr (9, [.ref y0, .ref y1, .ref y2, .ref y3, .ref y4, .int 0, .ref y5, .int 2, .int 0, .ref y6, .int 0, .ref y7, .int 0, .ref y8, .int 0])), (y1, .inl (k1, 8, .inl (fun _ => 0))), (y4, .inl (k4, 200, .inr (.inr (.inr (.inr (fun _ => none))))))] U.heap ∧ va_K (dC, dI) vwCl [(k1, .int), (k4, .object RX7)] U ∧ va_D (fun _ => True) [(h0, .inr (9, [.ref y0, .ref y1, .ref y2, .ref y3, .ref y4, .int 0, .ref y5, .int 2, .int 0, .ref y6, .int 0, .ref y7, .int 0, .ref y8, .int 0])), (y1, .inl (k1, 8, .inl (fun _ => 0))), (y4, .inl (k4, 200, .inr (.inr (.inr (.inr (fun _ => none))))))] ∧ nx U)) (va_Qi (fun (r : Int32) (u : Unit) => (r = 0 ∧ (0 ≤ v1.toInt ∧ v1.toInt < 8)) ∨ (r = (-1) ∧ ¬ (0 ≤ v1.toInt ∧ v1.toInt < 8))) (fun _ _ => True) (va_A [(h0, .inr (9, [.ref y0, .ref y1, .ref y2, .ref y3, .ref y4, .int 0, .ref y5, .int 2, .int 0, .ref y6, .int 0, .ref y7, .int 0, .ref y8, .int 0])), (y1, .inl (k1, 8, .inl (fun _ => 0))), (y4, .inl (k4, 200, .inr (.inr (.inr (.inr (fun _ => none))))))] sz)) 16 228 (va_A [(h0, .inr (9, [.ref y0, .ref y1, .ref y2, .ref y3, .ref y4, .int 0, .ref y5, .int 2, .int 0, .ref y6, .int 0, .ref y7, .int 0, .ref y8, .int 0])), (y1, .inl (k1, 8, .inl (fun _ => 0))), (y4, .inl (k4, 200, .inr (.inr (.inr (.inr (fun _ => none))))))] sz) := by
  refine Met.ofW (cc := cX9_submit) (maxL := 3) (ret := (some .int)) (by decide) rfl ?_
  intro p e s m args below meth c s₁ B hml hv
  obtain ⟨rfl, hsz, hP, hK, hD0, hN⟩ := hv
  have hx := B.exec
  have hb := B.bytes
  have hr := B.returns
  have hts := atoms_spec (ws := .code yX9_submit cX9_submit 3 (some .int) :: gw) B.pre
  have hg : ∀ w ∈ gw, w.before _ s = true := fun w h => hts w (List.mem_cons_of_mem _ h)
  have hown : s.vm.findClass RX9 = some m.cls := findClass_of_methodNamed B.named
  have hlocks := B.notSynchronized
  subst hsz
  have hD := hD0.self (sz := s.heap.size)
  generalize hAe : va_A [(h0, .inr (9, [.ref y0, .ref y1, .ref y2, .ref y3, .ref y4, .int 0, .ref y5, .int 2, .int 0, .ref y6, .int 0, .ref y7, .int 0, .ref y8, .int 0])), (y1, .inl (k1, 8, .inl (fun _ => 0))), (y4, .inl (k4, 200, .inr (.inr (.inr (.inr (fun _ => none))))))] s.heap.size = A at hD ⊢
  have hA : ∀ q : Nat, s.heap.size ≤ q → A q := fun q h => by rw [← hAe]; exact Or.inr h
  have hS : va_S A s.heap s.heap [] := va_S.rf
  have hP : va_P (dC, dI) vwCl [(h0, .inr (9, [.ref y0, .ref y1, .ref y2, .ref y3, .ref y4, .int 0, .ref y5, .int 2, .int 0, .ref y6, .int 0, .ref y7, .int 0, .ref y8, .int 0])), (y1, .inl (k1, 8, .inl (fun _ => 0))), (y4, .inl (k4, 200, .inr (.inr (.inr (.inr (fun _ => none))))))] s.heap := hP
  have hl := lv_entry ([.ref h0, .int v1]) (n := 3) (Nat.le_of_ble_eq_true rfl)
  rw [lg_entry_eq]
  generalize (lg_sl ([.ref h0, .int v1]) ++ List.replicate (3 - (lg_sl ([.ref h0, .int v1])).length) Slot.unset).toArray = ls at hl ⊢
  have hl : lv_has ls 3 [(0, .ref h0), (1, .int v1)] := hl
  refine lv_iload_n hx hb dX9_submit_0 rfl (lv_at hl 1 rfl) ?_
  have hPc := hP.sub (ws' := []) [] rfl
  have hDc := hD.sub (ws' := []) [] (by decide) rfl
  have hKc := hK.sub (tys' := []) [] rfl
  have hFc := va_free (wc := []) hD hS hA [] rfl
  refine va_calli (va_runS (As := [.int v1]) (rest := []) ⟨hx, hb, hml, hown, hg⟩ (c_X9_isErrand l dC dI v1 s.heap.size ) (va_cwS 1 hg (gw_S gm_methodLink_RX9_111_yX9_isErrand gm_static_yX9_isErrand gm_initialized_RX9 gm_code_yX9_isErrand_cX9_isErrand_1_some_boolean_) rfl rfl rfl (by decide +kernel) ⟨Nat.le_of_ble_eq_true rfl, Nat.le_of_ble_eq_true rfl⟩) ⟨fun a U g mk q => by obtain ⟨q0, q1, qP, qK, qD, qN⟩ := q; exact ⟨q0, q1, qP, va_K.moved (u := U) (U := U.calling g mk a) (Vm.Alike.refl U.vm) qK, qD, nx_same (u := U) (U := U.calling g mk a) rfl qN⟩, fun U hU hW => ⟨rfl, by rw [hU], by rw [hU]; exact hPc, va_K.moved hW.alike hKc, hDc.weaken (fun _ _ _ _ => trivial), nx_warm hW hN⟩⟩ rfl rfl hl.1 rfl (lv_room (Nat.le_of_ble_eq_true rfl)) dX9_submit_1 ⟨Nat.le_of_ble_eq_true rfl, Nat.le_of_ble_eq_true rfl⟩) hS (fun q _ h => hFc q h) hFc (fun r_1 u_2 t H1 locs ht hvm hw hB hz1 hk1 hS => ?_)
  have hP1 : va_P (dC, dI) vwCl [] H1 := nil_P
  have hD1 := nil_D (A := va_A [] s.heap.size)
  obtain ⟨hP, hD⟩ := va_join (wr := [(h0, .inr (9, [.ref y0, .ref y1, .ref y2, .ref y3, .ref y4, .int 0, .ref y5, .int 2, .int 0, .ref y6, .int 0, .ref y7, .int 0, .ref y8, .int 0])), (y1, .inl (k1, 8, .inl (fun _ => 0))), (y4, .inl (k4, 200, .inr (.inr (.inr (.inr (fun _ => none))))))]) (w1 := []) hP hD [] [0, 1, 2] rfl rfl (by decide) (by decide +kernel) hk1 hFc hP1 hD1
  generalize H1 = H at hP hS ⊢
  have hP : va_P (dC, dI) vwCl [(h0, .inr (9, [.ref y0, .ref y1, .ref y2, .ref y3, .ref y4, .int 0, .ref y5, .int 2, .int 0, .ref y6, .int 0, .ref y7, .int 0, .ref y8, .int 0])), (y1, .inl (k1, 8, .inl (fun _ => 0))), (y4, .inl (k4, 200, .inr (.inr (.inr (.inr (fun _ => none))))))] H := hP
  have hD : va_D A [(h0, .inr (9, [.ref y0, .ref y1, .ref y2, .ref y3, .ref y4, .int 0, .ref y5, .int 2, .int 0, .ref y6, .int 0, .ref y7, .int 0, .ref y8, .int 0])), (y1, .inl (k1, 8, .inl (fun _ => 0))), (y4, .inl (k4, 200, .inr (.inr (.inr (.inr (fun _ => none))))))] := hD
  refine W.widen (k := 0) (n := 0) (Nat.le_of_ble_eq_true rfl) (Nat.le_of_ble_eq_true rfl) ?_
  rcases hw with ⟨rfl, w_3⟩ | ⟨rfl, w_3⟩
  · refine lv_if_ne (tgt := 9) hx hb dX9_submit_4 (by decide) (fun _ => ?_) (fun c_4 => absurd c_4 (by decide))
    refine lv_aload_n hx hb dX9_submit_9 rfl (lv_at hl 0 rfl) ?_
    refine lv_iload_n hx hb dX9_submit_10 rfl (lv_at hl 1 rfl) ?_
    refine lv_null hx hb dX9_submit_11 ?_
    have hPc := hP.sub (ws' := [(h0, .inr (9, [.ref y0, .ref y1, .ref y2, .ref y3, .ref y4, .int 0, .ref y5, .int 2, .int 0, .ref y6, .int 0, .ref y7, .int 0, .ref y8, .int 0])), (y1, .inl (k1, 8, .inl (fun _ => 0))), (y4, .inl (k4, 200, .inr (.inr (.inr (.inr (fun _ => none))))))]) [0, 1, 2] rfl
    have hDc := hD.sub (ws' := [(h0, .inr (9, [.ref y0, .ref y1, .ref y2, .ref y3, .ref y4, .int 0, .ref y5, .int 2, .int 0, .ref y6, .int 0, .ref y7, .int 0, .ref y8, .int 0])), (y1, .inl (k1, 8, .inl (fun _ => 0))), (y4, .inl (k4, 200, .inr (.inr (.inr (.inr (fun _ => none))))))]) [0, 1, 2] (by decide) rfl
    have hKc := hK.sub (tys' := [(k1, .int), (k4, .object RX7)]) [0, 1] rfl
    have hFc := va_free (wc := [(h0, .inr (9, [.ref y0, .ref y1, .ref y2, .ref y3, .ref y4, .int 0, .ref y5, .int 2, .int 0, .ref y6, .int 0, .ref y7, .int 0, .ref y8, .int 0])), (y1, .inl (k1, 8, .inl (fun _ => 0))), (y4, .inl (k4, 200, .inr (.inr (.inr (.inr (fun _ => none))))))]) hD hS hA [0, 1, 2] rfl
    refine va_callq (va_runV (As := [.int v1, .null]) (rest := []) ⟨hx, hb, hml, hown, hg⟩ (c_X9_openRun l dC dI h0 y0 y1 y2 y3 y4 y5 y6 y7 y8 k1 k4 v1 H.size ) (cwV 2 hg (gw_V gm_methodLink_RX9_114_yX9_openRun gm_instanceMethod_yX9_openRun gm_selects_RX9_yX9_openRun_yX9_openRun gm_initialized_RX9 gm_code_yX9_openRun_cX9_openRun_5_some_object_ErrandGuild_Run_) rfl rfl rfl (by decide +kernel) ⟨Nat.le_of_ble_eq_true rfl, Nat.le_of_ble_eq_true rfl⟩) ⟨fun a U g mk q => by obtain ⟨q0, q1, qP, qK, qD, qN⟩ := q; exact ⟨q0, q1, qP, va_K.moved (u := U) (U := U.calling g mk a) (Vm.Alike.refl U.vm) qK, qD, nx_same (u := U) (U := U.calling g mk a) rfl qN⟩, va_recv hKc hPc (ci := 9) (q0 := 0) rfl rfl, fun U hU hW => ⟨rfl, by rw [hU], by rw [hU]; exact hPc, va_K.moved hW.alike hKc, hDc.weaken (fun _ _ _ _ => trivial), nx_warm hW hN⟩⟩ rfl rfl hl.1 rfl (lv_room (Nat.le_of_ble_eq_true rfl)) dX9_submit_12 ⟨Nat.le_of_ble_eq_true rfl, Nat.le_of_ble_eq_true rfl⟩) hS (fun q _ h => hFc q h) hFc (fun r_5 u_6 t H1 locs ht hvm hw hB hz1 hk1 hS => ?_)
    obtain ⟨ad_7, ac_8, af_9, ag_10⟩ := u_6
    obtain ⟨hP1, hD1, hK1⟩ := hB
    rw [ht] at hP1
    have hK1 := va_K.moved hvm.symm hK1
    obtain ⟨hP, hD⟩ := va_join (wr := []) (w1 := [((ad_7 0), .inr (7, [.int 0, .int v1, .int 0, .int (-1), .int 0, .int 0, .int 0, .int (-1), .int 0, .int 0, .ref (ad_7 1), .ref (ad_7 2), .ref (ad_7 3), .ref (ad_7 4), .ref (ad_7 5)]))]) hP hD [0, 1, 2] [] rfl rfl (by decide) (by decide +kernel) hk1 hFc hP1 hD1
    generalize H1 = H at hP hS ⊢
    have hP : va_P (dC, dI) vwCl [((ad_7 0), .inr (7, [.int 0, .int v1, .int 0, .int (-1), .int 0, .int 0, .int 0, .int (-1), .int 0, .int 0, .ref (ad_7 1), .ref (ad_7 2), .ref (ad_7 3), .ref (ad_7 4), .ref (ad_7 5)]))] H := hP
    have hD : va_D A [((ad_7 0), .inr (7, [.int 0, .int v1, .int 0, .int (-1), .int 0, .int 0, .int 0, .int (-1), .int 0, .int 0, .ref (ad_7 1), .ref (ad_7 2), .ref (ad_7 3), .ref (ad_7 4), .ref (ad_7 5)]))] := hD
    refine W.widen (k := 16) (n := 228) (Nat.le_of_ble_eq_true rfl) (Nat.le_of_ble_eq_true rfl) ?_
    obtain rfl : r_5 = some (ad_7 0) := hw
    refine W.eq (g2 := F0 m 15 ls [.ref (ad_7 0)]) rfl ?_
    refine lv_astore_n (lv' := [(2, .ref (ad_7 0)), (0, .ref h0), (1, .int v1)]) hx hb dX9_submit_15 rfl hl (by decide) rfl (fun ls hl => ?_)
    refine lv_aload_n hx hb dX9_submit_16 rfl (lv_at hl 0 rfl) ?_
    refine lv_ifnonnull (tgt := 24) hx hb dX9_submit_17 (by decide) ?_
    refine lv_aload_n hx hb dX9_submit_24 rfl (lv_at hl 0 rfl) ?_
    refine va_get (D := (dC, dI)) (ci := 7) (v := .int 0) (C := RX7) (T := TX7) (N := 15) hx hb hg gb_7 hown hK hP 0 rfl rfl 0 (by decide) (hg _ gm_fieldLink_RX9_118_ErrandGuild_Run_number_I_) (fun _ h9 => h9) rfl dX9_submit_25 ?_
    exact W.iret (v := 0) hx hb hr (fun t ht hW => ⟨⟨0, (), rfl, (Or.inl ⟨rfl, by omega⟩), trivial⟩, hS.F ht⟩) hS.2.2 dX9_submit_28
  · refine lv_if_ne (tgt := 9) hx hb dX9_submit_4 (by decide) (fun c_11 => absurd c_11 (by decide)) (fun _ => ?_)
    refine lv_iconst (v := -1) hx hb dX9_submit_7 (by decide) ?_
    refine W.widen (k := 16) (n := 228) (Nat.le_of_ble_eq_true rfl) (Nat.le_of_ble_eq_true rfl) ?_
    exact W.iret (v := -1) hx hb hr (fun t ht hW => ⟨⟨-1, (), rfl, (Or.inr ⟨rfl, by omega⟩), trivial⟩, hS.F ht⟩) hS.2.2 dX9_submit_8
