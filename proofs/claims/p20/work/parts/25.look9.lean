set_option maxHeartbeats 8000000 in
set_option maxRecDepth 100000 in
theorem c_X9_runAt (l : Launch) (dC : Nat → ClassId) (dI : Nat → Nat → Nat) (kc : Nat → ClassId) (ws : va_W) (ad : Nat → Nat) (ga : Nat → Nat) (gc : Nat → Nat) (M : Nat) (n : Nat → Int32) (f : Nat → Nat → Int32) (T : Nat → Option Nat) (G : Nat → Nat → Int32) (K : Nat → Nat → Option Nat) (F : Nat → Nat → Nat → Int32) (R : Nat) (v1 : Int32) (sz hz : Nat) (hQ : Pic9 kc ws ad ga gc M n f T G K F) (hI : I9 M n f T gc G K F R) : Met l yX9_runAt (.code yX9_runAt cX9_runAt 2 (some (.object "ErrandGuild$Run")) :: gw) ({ frames := 0, cells := 0, slots := 0, locals := 0 }) (va_Pc [.ref (ad 0), .int v1] (fun U => U.heap.size = sz ∧ hpS U.heap = hz ∧ va_P (dC, dI) vwCl ws U.heap ∧ va_K (dC, dI) vwCl (t9 kc) U ∧ va_D (fun _ => True) ws ∧ nx U)) (va_Qq (fun (r : Option Nat) (u : Unit) => (r = some (ad (50 + 16 * v1.toInt.toNat)) ∧ (0 ≤ v1.toInt ∧ v1.toInt < (n 0).toInt)) ∨ (r = none ∧ ¬ (0 ≤ v1.toInt ∧ v1.toInt < (n 0).toInt))) (fun _ t => va_P (dC, dI) vwCl ws t.heap ∧ va_D (va_A ws sz) ws ∧ hpS t.heap ≤ hz ∧ t.heap.size ≤ sz) (va_A ws sz)) 0 0 (va_A ws sz) := by
  refine Met.ofW (cc := cX9_runAt) (maxL := 2) (ret := (some (.object "ErrandGuild$Run"))) (by decide) rfl ?_
  intro p e s m args below meth c s₁ B hml hv
  obtain ⟨rfl, hsz, rfl, hP, hK, hD0, hN⟩ := hv
  have hx := B.exec
  have hb := B.bytes
  have hr := B.returns
  have hts := atoms_spec (ws := .code yX9_runAt cX9_runAt 2 (some (.object "ErrandGuild$Run")) :: gw) B.pre
  have hg : ∀ w ∈ gw, w.before _ s = true := fun w h => hts w (List.mem_cons_of_mem _ h)
  have hown : s.vm.findClass RX9 = some m.cls := findClass_of_methodNamed B.named
  have hlocks := B.notSynchronized
  subst hsz
  have hD := hD0.self (sz := s.heap.size)
  generalize hAe : va_A ws s.heap.size = A at hD ⊢
  have hA : ∀ q : Nat, s.heap.size ≤ q → A q := fun q h => by rw [← hAe]; exact Or.inr h
  clear hAe
  have hS : va_S A s.heap s.heap [] := va_S.rf
  have hl := lv_entry ([.ref (ad 0), .int v1]) (n := 2) (Nat.le_of_ble_eq_true rfl)
  rw [lg_entry_eq]
  generalize (lg_sl ([.ref (ad 0), .int v1]) ++ List.replicate (2 - (lg_sl ([.ref (ad 0), .int v1])).length) Slot.unset).toArray = ls at hl ⊢
  have hl : lv_has ls 2 [(0, .ref (ad 0)), (1, .int v1)] := hl
  obtain ⟨h_i1, h_i2, h_i3, h_i4, h_i5, h_i6, h_i7, h_i8, h_i9, h_i10, h_i11⟩ := id hI
  have q1_ := h_i1
  unfold i1 at q1_
  exact by
   refine lv_iload_n hx hb dX9_runAt_0 rfl (lv_at hl 1 rfl) ?_
   refine lv_if_lt (tgt := 28) hx hb dX9_runAt_1 (by decide) (fun c_1 => ?_) (fun c_1 => ?_)
   · simp only [i_lt, i_le, i_eq, ti_0] at c_1
     refine lv_null hx hb dX9_runAt_28 ?_
     refine W_msr2 (fun hm1 hm2 hm3 => ?_)
     exact W.aret (v := .null) hx hb hr (Or.inl ⟨_, rfl⟩) (Or.inl rfl) (fun t ht hW => ⟨⟨none, (), rfl, (Or.inr ⟨rfl, by show ¬ (0 ≤ v1.toInt ∧ v1.toInt < (n 0).toInt); omega⟩), by rw [ht]; exact hP, hD, by rw [ht]; omega, by rw [ht]; omega⟩, hS.F ht⟩) hS.2.2 dX9_runAt_29
   · simp only [i_lt, i_le, i_eq, ti_0] at c_1
     refine lv_iload_n hx hb dX9_runAt_4 rfl (lv_at hl 1 rfl) ?_
     refine lv_aload_n hx hb dX9_runAt_5 rfl (lv_at hl 0 rfl) ?_
     refine va_get (D := (dC, dI)) (ci := 9) (v := .int (n 0)) (C := RX9) (T := TX9) (N := 15) hx hb hg gb_9 hown hK hP 0 hQ.x0 rfl 5 (by decide) (hg _ gm_fieldLink_RX9_66_ErrandGuild_runCount_I_) (fun _ h9 => h9) rfl dX9_runAt_6 ?_
     refine lv_icmp_ge (tgt := 28) hx hb dX9_runAt_9 (by decide) (fun c_2 => ?_) (fun c_2 => ?_)
     · simp only [i_lt, i_le, i_eq] at c_2
       exact by
        refine lv_null hx hb dX9_runAt_28 ?_
        refine W_msr2 (fun hm1 hm2 hm3 => ?_)
        exact W.aret (v := .null) hx hb hr (Or.inl ⟨_, rfl⟩) (Or.inl rfl) (fun t ht hW => ⟨⟨none, (), rfl, (Or.inr ⟨rfl, by show ¬ (0 ≤ v1.toInt ∧ v1.toInt < (n 0).toInt); omega⟩), by rw [ht]; exact hP, hD, by rw [ht]; omega, by rw [ht]; omega⟩, hS.F ht⟩) hS.2.2 dX9_runAt_29
     · simp only [i_lt, i_le, i_eq] at c_2
       refine lv_iload_n hx hb dX9_runAt_12 rfl (lv_at hl 1 rfl) ?_
       refine lv_sipush (v := 200) hx hb dX9_runAt_13 (by decide) ?_
       refine lv_icmp_ge (tgt := 28) hx hb dX9_runAt_16 (by decide) (fun c_3 => ?_) (fun c_3 => ?_)
       · simp only [i_lt, i_le, i_eq, ti_200] at c_3
         refine lv_null hx hb dX9_runAt_28 ?_
         refine W_msr2 (fun hm1 hm2 hm3 => ?_)
         exact W.aret (v := .null) hx hb hr (Or.inl ⟨_, rfl⟩) (Or.inl rfl) (fun t ht hW => ⟨⟨none, (), rfl, (Or.inr ⟨rfl, by show ¬ (0 ≤ v1.toInt ∧ v1.toInt < (n 0).toInt); omega⟩), by rw [ht]; exact hP, hD, by rw [ht]; omega, by rw [ht]; omega⟩, hS.F ht⟩) hS.2.2 dX9_runAt_29
       · simp only [i_lt, i_le, i_eq, ti_200] at c_3
         refine lv_aload_n hx hb dX9_runAt_19 rfl (lv_at hl 0 rfl) ?_
         refine va_get (D := (dC, dI)) (ci := 9) (v := .ref (ad 40)) (C := RX9) (T := TX9) (N := 15) hx hb hg gb_9 hown hK hP 0 hQ.x0 rfl 4 (by decide) (hg _ gm_fieldLink_RX9_31_ErrandGuild_runs_ALErrandGuild_Run_) (fun _ h9 => h9) rfl dX9_runAt_20 ?_
         refine lv_iload_n hx hb dX9_runAt_23 rfl (lv_at hl 1 rfl) ?_
         exact by
          refine va_aldq hx hb hK hP 40 3 hQ.x40 rfl (vp_in_iff.mpr ⟨by omega, by omega⟩) dX9_runAt_24 ?_
          refine W.eq (g2 := F0 m 25 ls [.ref (ad (50 + 16 * v1.toInt.toNat))]) (by rw [cl_eq, rnA_in (show v1.toInt.toNat < M by omega)]; rfl) ?_
          refine lv_goto (tgt := 29) hx hb dX9_runAt_25 (by decide) ?_
          refine W_msr2 (fun hm1 hm2 hm3 => ?_)
          exact W.aret (v := .ref (ad (50 + 16 * v1.toInt.toNat))) hx hb hr (Or.inl ⟨_, rfl⟩) (Or.inr ⟨_, rfl⟩) (fun t ht hW => ⟨⟨some (ad (50 + 16 * v1.toInt.toNat)), (), rfl, (Or.inl ⟨rfl, by show (0 ≤ v1.toInt ∧ v1.toInt < (n 0).toInt); omega⟩), by rw [ht]; exact hP, hD, by rw [ht]; omega, by rw [ht]; omega⟩, hS.F ht⟩) hS.2.2 dX9_runAt_29

set_option maxHeartbeats 8000000 in
set_option maxRecDepth 100000 in
theorem c_X9_failedAt (l : Launch) (dC : Nat → ClassId) (dI : Nat → Nat → Nat) (kc : Nat → ClassId) (ws : va_W) (ad : Nat → Nat) (ga : Nat → Nat) (gc : Nat → Nat) (M : Nat) (n : Nat → Int32) (f : Nat → Nat → Int32) (T : Nat → Option Nat) (G : Nat → Nat → Int32) (K : Nat → Nat → Option Nat) (F : Nat → Nat → Nat → Int32) (R : Nat) (v1 : Int32) (sz hz : Nat) (hQ : Pic9 kc ws ad ga gc M n f T G K F) (hI : I9 M n f T gc G K F R) : Met l yX9_failedAt (.code yX9_failedAt cX9_failedAt 3 (some (.object "ErrandGuild$Run")) :: gw) ({ frames := 1, cells := 0, slots := 0, locals := 21 }) (va_Pc [.ref (ad 0), .int v1] (fun U => U.heap.size = sz ∧ hpS U.heap = hz ∧ va_P (dC, dI) vwCl ws U.heap ∧ va_K (dC, dI) vwCl (t9 kc) U ∧ va_D (fun _ => True) ws ∧ nx U)) (va_Qq (fun (r : Option Nat) (u : Unit) => (r = some (ad (50 + 16 * v1.toInt.toNat)) ∧ ((0 ≤ v1.toInt ∧ v1.toInt < (n 0).toInt) ∧ (G v1.toInt.toNat 2).toInt = 4)) ∨ (r = none ∧ ¬ ((0 ≤ v1.toInt ∧ v1.toInt < (n 0).toInt) ∧ (G v1.toInt.toNat 2).toInt = 4))) (fun _ t => va_P (dC, dI) vwCl ws t.heap ∧ va_D (va_A ws sz) ws ∧ hpS t.heap ≤ hz ∧ t.heap.size ≤ sz) (va_A ws sz)) 0 0 (va_A ws sz) := by
  refine Met.ofW (cc := cX9_failedAt) (maxL := 3) (ret := (some (.object "ErrandGuild$Run"))) (by decide) rfl ?_
  intro p e s m args below meth c s₁ B hml hv
  obtain ⟨rfl, hsz, rfl, hP, hK, hD0, hN⟩ := hv
  have hx := B.exec
  have hb := B.bytes
  have hr := B.returns
  have hts := atoms_spec (ws := .code yX9_failedAt cX9_failedAt 3 (some (.object "ErrandGuild$Run")) :: gw) B.pre
  have hg : ∀ w ∈ gw, w.before _ s = true := fun w h => hts w (List.mem_cons_of_mem _ h)
  have hown : s.vm.findClass RX9 = some m.cls := findClass_of_methodNamed B.named
  have hlocks := B.notSynchronized
  subst hsz
  have hD := hD0.self (sz := s.heap.size)
  generalize hAe : va_A ws s.heap.size = A at hD ⊢
  have hA : ∀ q : Nat, s.heap.size ≤ q → A q := fun q h => by rw [← hAe]; exact Or.inr h
  clear hAe
  have hS : va_S A s.heap s.heap [] := va_S.rf
  have hl := lv_entry ([.ref (ad 0), .int v1]) (n := 3) (Nat.le_of_ble_eq_true rfl)
  rw [lg_entry_eq]
  generalize (lg_sl ([.ref (ad 0), .int v1]) ++ List.replicate (3 - (lg_sl ([.ref (ad 0), .int v1])).length) Slot.unset).toArray = ls at hl ⊢
  have hl : lv_has ls 3 [(0, .ref (ad 0)), (1, .int v1)] := hl
  obtain ⟨h_i1, h_i2, h_i3, h_i4, h_i5, h_i6, h_i7, h_i8, h_i9, h_i10, h_i11⟩ := id hI
  have q1_ := h_i1
  unfold i1 at q1_
  exact by
   refine lv_aload_n hx hb dX9_failedAt_0 rfl (lv_at hl 0 rfl) ?_
   refine lv_iload_n hx hb dX9_failedAt_1 rfl (lv_at hl 1 rfl) ?_
   have hFc := free_all hD hS hA
   refine va_callq (va_runV (As := [.int v1]) (rest := []) ⟨hx, hb, hml, hown, hg⟩ (c_X9_runAt l dC dI kc ws ad ga gc M n f T G K F R v1 s.heap.size (hpS s.heap) hQ ⟨h_i1, h_i2, h_i3, h_i4, h_i5, h_i6, h_i7, h_i8, h_i9, h_i10, h_i11⟩) (cwV 1 hg (gw_V gm_methodLink_RX9_134_yX9_runAt gm_instanceMethod_yX9_runAt gm_selects_RX9_yX9_runAt_yX9_runAt gm_initialized_RX9 gm_code_yX9_runAt_cX9_runAt_2_some_object_ErrandGuild_Run_) rfl rfl rfl (by decide +kernel) ⟨Nat.le_of_ble_eq_true rfl, Nat.le_of_ble_eq_true rfl⟩) ⟨fun a U g mk q => by obtain ⟨q0, q1, q2, qP, qK, qD, qN⟩ := q; exact ⟨q0, q1, q2, qP, va_K.moved (u := U) (U := U.calling g mk a) (Vm.Alike.refl U.vm) qK, qD, nx_same (u := U) (U := U.calling g mk a) rfl qN⟩, va_recv hK hP (ci := 9) (q0 := 0) rfl hQ.x0, fun U hU hW => ⟨rfl, by rw [hU], by rw [hU], by rw [hU]; exact hP, va_K.moved hW.alike hK, hD.weaken (fun _ _ _ _ => trivial), nx_warm hW hN⟩⟩ rfl rfl hl.1 rfl (lv_room (Nat.le_of_ble_eq_true rfl)) dX9_failedAt_2 ⟨Nat.le_of_ble_eq_true rfl, Nat.le_of_ble_eq_true rfl⟩) hS (fun q _ h => hFc q h) hFc (fun r_1 u_2 t H1 locs ht hvm hw hB hz1 hk1 hS => ?_)
   obtain ⟨hP, hD, hy1, hy2⟩ := hB
   rw [ht] at hP hy1 hy2
   have hD := hD.weaken (fun k q _ h => hFc _ h)
   have q1_ := h_i1
   unfold i1 at q1_
   generalize H1 = H at hP hS ⊢
   rcases hw with ⟨rfl, w_3⟩ | ⟨rfl, w_3⟩
   · have w_3 : (0 ≤ v1.toInt ∧ v1.toInt < (n 0).toInt) := w_3
     have hl_4 : v1.toInt.toNat < M := by omega
     refine W.eq (g2 := F0 m 5 ls [.ref (ad (50 + 16 * v1.toInt.toNat))]) rfl ?_
     exact by
      refine lv_astore_n (lv' := [(2, .ref (ad (50 + 16 * v1.toInt.toNat))), (0, .ref (ad 0)), (1, .int v1)]) hx hb dX9_failedAt_5 rfl hl (by decide) rfl (fun ls hl => ?_)
      refine lv_aload_n hx hb dX9_failedAt_6 rfl (lv_at hl 0 rfl) ?_
      refine lv_ifnull hx hb dX9_failedAt_7 ?_
      refine lv_aload_n hx hb dX9_failedAt_10 rfl (lv_at hl 0 rfl) ?_
      refine va_get (D := (dC, dI)) (ci := 7) (v := .int (G v1.toInt.toNat 2)) (C := RX7) (T := TX7) (N := 15) hx hb hg gb_7 hown hK hP (50 + 16 * v1.toInt.toNat) (hQ.b0 hl_4) rfl 2 (by decide) (hg _ gm_fieldLink_RX9_145_ErrandGuild_Run_state_I_) (fun _ h9 => h9) rfl dX9_failedAt_11 ?_
      refine lv_iconst (v := 4) hx hb dX9_failedAt_14 (by decide) ?_
      refine lv_icmp_ne (tgt := 22) hx hb dX9_failedAt_15 (by decide) (fun c_5 => ?_) (fun c_5 => ?_)
      · simp only [i_lt, i_le, i_eq, ti_4] at c_5
        refine lv_null hx hb dX9_failedAt_22 ?_
        refine W_msr2 (fun hm1 hm2 hm3 => ?_)
        exact W.aret (v := .null) hx hb hr (Or.inl ⟨_, rfl⟩) (Or.inl rfl) (fun t ht hW => ⟨⟨none, (), rfl, (Or.inr ⟨rfl, by show ¬ ((0 ≤ v1.toInt ∧ v1.toInt < (n 0).toInt) ∧ (G v1.toInt.toNat 2).toInt = 4); omega⟩), by rw [ht]; exact hP, hD, by rw [ht]; omega, by rw [ht]; omega⟩, hS.F ht⟩) hS.2.2 dX9_failedAt_23
      · simp only [i_lt, i_le, i_eq, ti_4] at c_5
        exact by
         refine lv_aload_n hx hb dX9_failedAt_18 rfl (lv_at hl 0 rfl) ?_
         refine lv_goto (tgt := 23) hx hb dX9_failedAt_19 (by decide) ?_
         refine W_msr2 (fun hm1 hm2 hm3 => ?_)
         exact W.aret (v := .ref (ad (50 + 16 * v1.toInt.toNat))) hx hb hr (Or.inl ⟨_, rfl⟩) (Or.inr ⟨_, rfl⟩) (fun t ht hW => ⟨⟨some (ad (50 + 16 * v1.toInt.toNat)), (), rfl, (Or.inl ⟨rfl, by show ((0 ≤ v1.toInt ∧ v1.toInt < (n 0).toInt) ∧ (G v1.toInt.toNat 2).toInt = 4); omega⟩), by rw [ht]; exact hP, hD, by rw [ht]; omega, by rw [ht]; omega⟩, hS.F ht⟩) hS.2.2 dX9_failedAt_23
   · have w_3 : ¬ (0 ≤ v1.toInt ∧ v1.toInt < (n 0).toInt) := w_3
     refine W.eq (g2 := F0 m 5 ls [.null]) rfl ?_
     refine lv_astore_nN (lv' := [(2, .null), (0, .ref (ad 0)), (1, .int v1)]) hx hb dX9_failedAt_5 rfl hl (by decide) rfl (fun ls hl => ?_)
     refine lv_aload_nN hx hb dX9_failedAt_6 rfl (lv_at hl 0 rfl) ?_
     refine lv_ifnullN (tgt := 22) hx hb dX9_failedAt_7 (by decide) ?_
     refine lv_null hx hb dX9_failedAt_22 ?_
     refine W_msr2 (fun hm1 hm2 hm3 => ?_)
     exact W.aret (v := .null) hx hb hr (Or.inl ⟨_, rfl⟩) (Or.inl rfl) (fun t ht hW => ⟨⟨none, (), rfl, (Or.inr ⟨rfl, by show ¬ ((0 ≤ v1.toInt ∧ v1.toInt < (n 0).toInt) ∧ (G v1.toInt.toNat 2).toInt = 4); omega⟩), by rw [ht]; exact hP, hD, by rw [ht]; omega, by rw [ht]; omega⟩, hS.F ht⟩) hS.2.2 dX9_failedAt_23

set_option maxHeartbeats 8000000 in
set_option maxRecDepth 100000 in
theorem c9_X9_errandAt (l : Launch) (dC : Nat → ClassId) (dI : Nat → Nat → Nat) (kc : Nat → ClassId) (ws : va_W) (ad : Nat → Nat) (ga : Nat → Nat) (gc : Nat → Nat) (M : Nat) (n : Nat → Int32) (f : Nat → Nat → Int32) (T : Nat → Option Nat) (G : Nat → Nat → Int32) (K : Nat → Nat → Option Nat) (F : Nat → Nat → Nat → Int32) (R : Nat) (v1 : Int32) (sz hz : Nat) (hQ : Pic9 kc ws ad ga gc M n f T G K F) (hI : I9 M n f T gc G K F R) : Met l yX9_errandAt (.code yX9_errandAt cX9_errandAt 2 (some (.object "ErrandGuild$Errand")) :: gw) ({ frames := 1, cells := 0, slots := 0, locals := 20 }) (va_Pc [.ref (ad 0), .int v1] (fun U => U.heap.size = sz ∧ hpS U.heap = hz ∧ va_P (dC, dI) vwCl ws U.heap ∧ va_K (dC, dI) vwCl (t9 kc) U ∧ va_D (fun _ => True) ws ∧ nx U)) (va_Qq (fun (r : Option Nat) (u : Unit) => (r = some (ad (4 + 4 * v1.toInt.toNat)) ∧ (0 ≤ v1.toInt ∧ v1.toInt < 8)) ∨ (r = none ∧ ¬ (0 ≤ v1.toInt ∧ v1.toInt < 8))) (fun _ t => va_P (dC, dI) vwCl ws t.heap ∧ va_D (va_A ws sz) ws ∧ hpS t.heap ≤ hz ∧ t.heap.size ≤ sz) (va_A ws sz)) 0 0 (va_A ws sz) := by
  refine Met.ofW (cc := cX9_errandAt) (maxL := 2) (ret := (some (.object "ErrandGuild$Errand"))) (by decide) rfl ?_
  intro p e s m args below meth c s₁ B hml hv
  obtain ⟨rfl, hsz, rfl, hP, hK, hD0, hN⟩ := hv
  have hx := B.exec
  have hb := B.bytes
  have hr := B.returns
  have hts := atoms_spec (ws := .code yX9_errandAt cX9_errandAt 2 (some (.object "ErrandGuild$Errand")) :: gw) B.pre
  have hg : ∀ w ∈ gw, w.before _ s = true := fun w h => hts w (List.mem_cons_of_mem _ h)
  have hown : s.vm.findClass RX9 = some m.cls := findClass_of_methodNamed B.named
  have hlocks := B.notSynchronized
  subst hsz
  have hD := hD0.self (sz := s.heap.size)
  generalize hAe : va_A ws s.heap.size = A at hD ⊢
  have hA : ∀ q : Nat, s.heap.size ≤ q → A q := fun q h => by rw [← hAe]; exact Or.inr h
  clear hAe
  have hS : va_S A s.heap s.heap [] := va_S.rf
  have hl := lv_entry ([.ref (ad 0), .int v1]) (n := 2) (Nat.le_of_ble_eq_true rfl)
  rw [lg_entry_eq]
  generalize (lg_sl ([.ref (ad 0), .int v1]) ++ List.replicate (2 - (lg_sl ([.ref (ad 0), .int v1])).length) Slot.unset).toArray = ls at hl ⊢
  have hl : lv_has ls 2 [(0, .ref (ad 0)), (1, .int v1)] := hl
  obtain ⟨h_i1, h_i2, h_i3, h_i4, h_i5, h_i6, h_i7, h_i8, h_i9, h_i10, h_i11⟩ := id hI
  have q1_ := h_i1
  unfold i1 at q1_
  exact by
   refine lv_iload_n hx hb dX9_errandAt_0 rfl (lv_at hl 1 rfl) ?_
   have hCc : ([] : List Nat).map (fun i => ws[i]?) = ([] : va_W).map some := rfl
   have hNd : ([] : List Nat).Nodup := List.nodup_nil
   have hPc := hP.pick [] hCc
   have hDc := hD.pick [] hNd hCc
   have hKc := hK.sub (tys' := []) [] rfl
   have hFc := va_free (wc := []) hD hS hA [] hCc
   refine va_calli (va_runS (As := [.int v1]) (rest := []) ⟨hx, hb, hml, hown, hg⟩ (c_X9_isErrand l dC dI v1 s.heap.size ) (va_cwS 1 hg (gw_S gm_methodLink_RX9_111_yX9_isErrand gm_static_yX9_isErrand gm_initialized_RX9 gm_code_yX9_isErrand_cX9_isErrand_1_some_boolean_) rfl rfl rfl (by decide +kernel) ⟨Nat.le_of_ble_eq_true rfl, Nat.le_of_ble_eq_true rfl⟩) ⟨fun a U g mk q => by obtain ⟨q0, q1, qP, qK, qD, qN⟩ := q; exact ⟨q0, q1, qP, va_K.moved (u := U) (U := U.calling g mk a) (Vm.Alike.refl U.vm) qK, qD, nx_same (u := U) (U := U.calling g mk a) rfl qN⟩, fun U hU hW => ⟨rfl, by rw [hU], by rw [hU]; exact hPc, va_K.moved hW.alike hKc, hDc.weaken (fun _ _ _ _ => trivial), nx_warm hW hN⟩⟩ rfl rfl hl.1 rfl (lv_room (Nat.le_of_ble_eq_true rfl)) dX9_errandAt_1 ⟨Nat.le_of_ble_eq_true rfl, Nat.le_of_ble_eq_true rfl⟩) hS (fun q _ h => hFc q h) hFc (fun r_1 u_2 t H1 locs ht hvm hw hB hz1 hk1 hS => ?_)
   obtain ⟨hP, hD⟩ := va_replS hP hD [] rfl List.nodup_nil hk1 hFc nil_P nil_D
   generalize H1 = H at hP hS ⊢
   rcases hw with ⟨rfl, w_3⟩ | ⟨rfl, w_3⟩
   · refine lv_if_eq (tgt := 16) hx hb dX9_errandAt_4 (by decide) (fun c_4 => absurd c_4 (by decide)) (fun _ => ?_)
     exact by
      refine lv_aload_n hx hb dX9_errandAt_7 rfl (lv_at hl 0 rfl) ?_
      refine va_get (D := (dC, dI)) (ci := 9) (v := .ref (ad 3)) (C := RX9) (T := TX9) (N := 15) hx hb hg gb_9 hown hK hP 0 hQ.x0 rfl 2 (by decide) (hg _ gm_fieldLink_RX9_18_ErrandGuild_errands_ALErrandGuild_Errand_) (fun _ h9 => h9) rfl dX9_errandAt_8 ?_
      refine lv_iload_n hx hb dX9_errandAt_11 rfl (lv_at hl 1 rfl) ?_
      refine va_aldq hx hb hK hP 3 2 hQ.x3 rfl (vp_in_iff.mpr ⟨by omega, by omega⟩) dX9_errandAt_12 ?_
      refine W.eq (g2 := F0 m 13 ls [.ref (ad (4 + 4 * v1.toInt.toNat))]) (by rw [cl_eq, erA_in (show v1.toInt.toNat < 8 by omega)]; rfl) ?_
      refine lv_goto (tgt := 17) hx hb dX9_errandAt_13 (by decide) ?_
      refine W_msr2 (fun hm1 hm2 hm3 => ?_)
      exact W.aret (v := .ref (ad (4 + 4 * v1.toInt.toNat))) hx hb hr (Or.inl ⟨_, rfl⟩) (Or.inr ⟨_, rfl⟩) (fun t ht hW => ⟨⟨some (ad (4 + 4 * v1.toInt.toNat)), (), rfl, (Or.inl ⟨rfl, by show (0 ≤ v1.toInt ∧ v1.toInt < 8); omega⟩), by rw [ht]; exact hP, hD, by rw [ht]; omega, by rw [ht]; omega⟩, hS.F ht⟩) hS.2.2 dX9_errandAt_17
   · refine lv_if_eq (tgt := 16) hx hb dX9_errandAt_4 (by decide) (fun _ => ?_) (fun c_5 => absurd c_5 (by decide))
     refine lv_null hx hb dX9_errandAt_16 ?_
     refine W_msr2 (fun hm1 hm2 hm3 => ?_)
     exact W.aret (v := .null) hx hb hr (Or.inl ⟨_, rfl⟩) (Or.inl rfl) (fun t ht hW => ⟨⟨none, (), rfl, (Or.inr ⟨rfl, by show ¬ (0 ≤ v1.toInt ∧ v1.toInt < 8); omega⟩), by rw [ht]; exact hP, hD, by rw [ht]; omega, by rw [ht]; omega⟩, hS.F ht⟩) hS.2.2 dX9_errandAt_17

theorem rt9_lt {M : Nat} {K : Nat → Nat → Option Nat} {i : Nat} (h : i3 M K) (hi : i < M) : rt9 K i < M := by
  unfold rt9
  cases e : K i 1 with
  | none => exact hi
  | some j => exact h i 1 j hi e

set_option maxHeartbeats 8000000 in
set_option maxRecDepth 100000 in
theorem c_X7_root (l : Launch) (dC : Nat → ClassId) (dI : Nat → Nat → Nat) (kc : Nat → ClassId) (ws : va_W) (ad : Nat → Nat) (ga : Nat → Nat) (gc : Nat → Nat) (M : Nat) (n : Nat → Int32) (f : Nat → Nat → Int32) (T : Nat → Option Nat) (G : Nat → Nat → Int32) (K : Nat → Nat → Option Nat) (F : Nat → Nat → Nat → Int32) (R : Nat) (i : Nat) (sz hz : Nat) (hQ : Pic9 kc ws ad ga gc M n f T G K F) (hI : I9 M n f T gc G K F R) (hi : i < M) : Met l yX7_root (.code yX7_root cX7_root 1 (some (.object "ErrandGuild$Run")) :: gw) ({ frames := 0, cells := 0, slots := 0, locals := 0 }) (va_Pc [.ref (ad (50 + 16 * i))] (fun U => U.heap.size = sz ∧ hpS U.heap = hz ∧ va_P (dC, dI) vwCl ws U.heap ∧ va_K (dC, dI) vwCl (t9 kc) U ∧ va_D (fun _ => True) ws ∧ nx U)) (va_Qq (fun (r : Option Nat) (u : Unit) => r = some (ad (50 + 16 * rt9 K i))) (fun _ t => va_P (dC, dI) vwCl ws t.heap ∧ va_D (va_A ws sz) ws ∧ hpS t.heap ≤ hz ∧ t.heap.size ≤ sz) (va_A ws sz)) 0 0 (va_A ws sz) := by
  refine Met.ofW (cc := cX7_root) (maxL := 1) (ret := (some (.object "ErrandGuild$Run"))) (by decide) rfl ?_
  intro p e s m args below meth c s₁ B hml hv
  obtain ⟨rfl, hsz, rfl, hP, hK, hD0, hN⟩ := hv
  have hx := B.exec
  have hb := B.bytes
  have hr := B.returns
  have hts := atoms_spec (ws := .code yX7_root cX7_root 1 (some (.object "ErrandGuild$Run")) :: gw) B.pre
  have hg : ∀ w ∈ gw, w.before _ s = true := fun w h => hts w (List.mem_cons_of_mem _ h)
  have hown : s.vm.findClass RX7 = some m.cls := findClass_of_methodNamed B.named
  have hlocks := B.notSynchronized
  subst hsz
  have hD := hD0.self (sz := s.heap.size)
  generalize hAe : va_A ws s.heap.size = A at hD ⊢
  have hA : ∀ q : Nat, s.heap.size ≤ q → A q := fun q h => by rw [← hAe]; exact Or.inr h
  clear hAe
  have hS : va_S A s.heap s.heap [] := va_S.rf
  have hl := lv_entry ([.ref (ad (50 + 16 * i))]) (n := 1) (Nat.le_of_ble_eq_true rfl)
  rw [lg_entry_eq]
  generalize (lg_sl ([.ref (ad (50 + 16 * i))]) ++ List.replicate (1 - (lg_sl ([.ref (ad (50 + 16 * i))])).length) Slot.unset).toArray = ls at hl ⊢
  have hl : lv_has ls 1 [(0, .ref (ad (50 + 16 * i)))] := hl
  obtain ⟨h_i1, h_i2, h_i3, h_i4, h_i5, h_i6, h_i7, h_i8, h_i9, h_i10, h_i11⟩ := id hI
  have q1_ := h_i1
  unfold i1 at q1_
  exact by
   refine lv_aload_n hx hb dX7_root_0 rfl (lv_at hl 0 rfl) ?_
   refine va_get (D := (dC, dI)) (ci := 7) (v := .ref (ad (50 + 16 * i + 1))) (C := RX7) (T := TX7) (N := 15) hx hb hg gb_7 hown hK hP (50 + 16 * i) (hQ.b0 hi) rfl 10 (by decide) (hg _ gm_fieldLink_RX7_12_ErrandGuild_Run_kin_LErrandGuild_Kin_) (fun _ h9 => h9) rfl dX7_root_1 ?_
   refine va_get (D := (dC, dI)) (ci := 4) (v := va_rf (rA9 ad (K i 1))) (C := RX4) (T := TX4) (N := 9) hx hb hg gb_4 hown hK hP (50 + 16 * i + 1) (hQ.b1 hi) rfl 1 (by decide) (hg _ gm_fieldLink_RX7_91_ErrandGuild_Kin_root_LErrandGuild_Run_) (fun _ h9 => h9) rfl dX7_root_4 ?_
   rcases eo_1 : K i 1 with _ | j_2
   · refine W.eq (g2 := F0 m 7 ls [.null]) (by first | rfl | (rw [eo_1]; rfl)) ?_
     refine lv_ifnonnullN hx hb dX7_root_7 ?_
     refine lv_aload_n hx hb dX7_root_10 rfl (lv_at hl 0 rfl) ?_
     refine lv_goto (tgt := 21) hx hb dX7_root_11 (by decide) ?_
     refine W_msr2 (fun hm1 hm2 hm3 => ?_)
     exact W.aret (v := .ref (ad (50 + 16 * i))) hx hb hr (Or.inl ⟨_, rfl⟩) (Or.inr ⟨_, rfl⟩) (fun t ht hW => ⟨⟨some (ad (50 + 16 * i)), (), rfl, (by show some (ad (50 + 16 * i)) = some (ad (50 + 16 * rt9 K i)); unfold rt9; rw [eo_1]; rfl), by rw [ht]; exact hP, hD, by rw [ht]; omega, by rw [ht]; omega⟩, hS.F ht⟩) hS.2.2 dX7_root_21
   · refine W.eq (g2 := F0 m 7 ls [.ref (ad (50 + 16 * j_2))]) (by first | rfl | (rw [eo_1]; rfl)) ?_
     have hj_2 : j_2 < M := h_i3 _ _ _ hi eo_1
     exact by
      refine lv_ifnonnull (tgt := 14) hx hb dX7_root_7 (by decide) ?_
      refine lv_aload_n hx hb dX7_root_14 rfl (lv_at hl 0 rfl) ?_
      refine va_get (D := (dC, dI)) (ci := 7) (v := .ref (ad (50 + 16 * i + 1))) (C := RX7) (T := TX7) (N := 15) hx hb hg gb_7 hown hK hP (50 + 16 * i) (hQ.b0 hi) rfl 10 (by decide) (hg _ gm_fieldLink_RX7_12_ErrandGuild_Run_kin_LErrandGuild_Kin_) (fun _ h9 => h9) rfl dX7_root_15 ?_
      refine va_get (D := (dC, dI)) (ci := 4) (v := va_rf (rA9 ad (K i 1))) (C := RX4) (T := TX4) (N := 9) hx hb hg gb_4 hown hK hP (50 + 16 * i + 1) (hQ.b1 hi) rfl 1 (by decide) (hg _ gm_fieldLink_RX7_91_ErrandGuild_Kin_root_LErrandGuild_Run_) (fun _ h9 => h9) rfl dX7_root_18 ?_
      refine W.eq (g2 := F0 m 21 ls [.ref (ad (50 + 16 * j_2))]) (by rw [eo_1]; rfl) ?_
      refine W_msr2 (fun hm1 hm2 hm3 => ?_)
      exact W.aret (v := .ref (ad (50 + 16 * j_2))) hx hb hr (Or.inl ⟨_, rfl⟩) (Or.inr ⟨_, rfl⟩) (fun t ht hW => ⟨⟨some (ad (50 + 16 * j_2)), (), rfl, (by show some (ad (50 + 16 * j_2)) = some (ad (50 + 16 * rt9 K i)); unfold rt9; rw [eo_1]; rfl), by rw [ht]; exact hP, hD, by rw [ht]; omega, by rw [ht]; omega⟩, hS.F ht⟩) hS.2.2 dX7_root_21

set_option maxHeartbeats 8000000 in
set_option maxRecDepth 100000 in
theorem c_X9_areAwaitedOver (l : Launch) (dC : Nat → ClassId) (dI : Nat → Nat → Nat) (kc : Nat → ClassId) (ws : va_W) (ad : Nat → Nat) (ga : Nat → Nat) (gc : Nat → Nat) (M : Nat) (n : Nat → Int32) (f : Nat → Nat → Int32) (T : Nat → Option Nat) (G : Nat → Nat → Int32) (K : Nat → Nat → Option Nat) (F : Nat → Nat → Nat → Int32) (R : Nat) (i : Nat) (sz hz : Nat) (hQ : Pic9 kc ws ad ga gc M n f T G K F) (hI : I9 M n f T gc G K F R) (hi : i < M) : Met l yX9_areAwaitedOver (.code yX9_areAwaitedOver cX9_areAwaitedOver 2 (some .boolean) :: gw) ({ frames := 1, cells := 0, slots := 0, locals := 20 }) (va_Pc [.ref (ad (50 + 16 * i))] (fun U => U.heap.size = sz ∧ hpS U.heap = hz ∧ va_P (dC, dI) vwCl ws U.heap ∧ va_K (dC, dI) vwCl (t9 kc) U ∧ va_D (fun _ => True) ws ∧ nx U)) (va_Qi (fun (r : Int32) (u : Unit) => (r = 1 ∧ k_aw K G i = true) ∨ (r = 0 ∧ k_aw K G i = false)) (fun _ t => va_P (dC, dI) vwCl ws t.heap ∧ va_D (va_A ws sz) ws ∧ hpS t.heap ≤ hz ∧ t.heap.size ≤ sz) (va_A ws sz)) 0 0 (va_A ws sz) := by
  refine Met.ofW (cc := cX9_areAwaitedOver) (maxL := 2) (ret := (some .boolean)) (by decide) rfl ?_
  intro p e s m args below meth c s₁ B hml hv
  obtain ⟨rfl, hsz, rfl, hP, hK, hD0, hN⟩ := hv
  have hx := B.exec
  have hb := B.bytes
  have hr := B.returns
  have hts := atoms_spec (ws := .code yX9_areAwaitedOver cX9_areAwaitedOver 2 (some .boolean) :: gw) B.pre
  have hg : ∀ w ∈ gw, w.before _ s = true := fun w h => hts w (List.mem_cons_of_mem _ h)
  have hown : s.vm.findClass RX9 = some m.cls := findClass_of_methodNamed B.named
  have hlocks := B.notSynchronized
  subst hsz
  have hD := hD0.self (sz := s.heap.size)
  generalize hAe : va_A ws s.heap.size = A at hD ⊢
  have hA : ∀ q : Nat, s.heap.size ≤ q → A q := fun q h => by rw [← hAe]; exact Or.inr h
  clear hAe
  have hS : va_S A s.heap s.heap [] := va_S.rf
  have hl := lv_entry ([.ref (ad (50 + 16 * i))]) (n := 2) (Nat.le_of_ble_eq_true rfl)
  rw [lg_entry_eq]
  generalize (lg_sl ([.ref (ad (50 + 16 * i))]) ++ List.replicate (2 - (lg_sl ([.ref (ad (50 + 16 * i))])).length) Slot.unset).toArray = ls at hl ⊢
  have hl : lv_has ls 2 [(0, .ref (ad (50 + 16 * i)))] := hl
  obtain ⟨h_i1, h_i2, h_i3, h_i4, h_i5, h_i6, h_i7, h_i8, h_i9, h_i10, h_i11⟩ := id hI
  have q1_ := h_i1
  unfold i1 at q1_
  exact by
   refine lv_aload_n hx hb dX9_areAwaitedOver_0 rfl (lv_at hl 0 rfl) ?_
   refine va_get (D := (dC, dI)) (ci := 7) (v := .ref (ad (50 + 16 * i + 1))) (C := RX7) (T := TX7) (N := 15) hx hb hg gb_7 hown hK hP (50 + 16 * i) (hQ.b0 hi) rfl 10 (by decide) (hg _ gm_fieldLink_RX9_151_ErrandGuild_Run_kin_LErrandGuild_Kin_) (fun _ h9 => h9) rfl dX9_areAwaitedOver_1 ?_
   refine va_get (D := (dC, dI)) (ci := 4) (v := va_rf (rA9 ad (K i 2))) (C := RX4) (T := TX4) (N := 9) hx hb hg gb_4 hown hK hP (50 + 16 * i + 1) (hQ.b1 hi) rfl 5 (by decide) (hg _ gm_fieldLink_RX9_225_ErrandGuild_Kin_firstChild_LErrandGuild_Run_) (fun _ h9 => h9) rfl dX9_areAwaitedOver_4 ?_
   rcases eo_1 : K i 2 with _ | j_2
   · refine W.eq (g2 := F0 m 7 ls [.null]) (by first | rfl | (rw [eo_1]; rfl)) ?_
     refine lv_astore_nN (lv' := [(1, .null), (0, .ref (ad (50 + 16 * i)))]) hx hb dX9_areAwaitedOver_7 rfl hl (by decide) rfl (fun ls hl => ?_)
     have L8 : ∀ (fuel : Nat)  (o_3 : Option Nat)    (H : Heap) (locs : List Loc) (ls : Array Slot), chM M o_3 < fuel → (∀ j : Nat, o_3 = some j → j < M) → (cit K (awB G) (fun _ => true) 201 o_3 () = k_aw K G i) → va_P (dC, dI) vwCl ws H → va_D A ws → va_S A s.heap H locs → lv_has ls 2 [(1, va_rf (rA9 ad o_3)), (0, .ref (ad (50 + 16 * i)))] → W p l e (headSpec (.code yX9_areAwaitedOver cX9_areAwaitedOver 2 (some .boolean) :: gw) ({ frames := 1, cells := 0, slots := 0, locals := 20 })).room s m ([.ref (ad (50 + 16 * i))] : List Value).toArray below meth c H locs 0 0 (MQ below (va_Qi (fun (r : Int32) (u : Unit) => (r = 1 ∧ k_aw K G i = true) ∨ (r = 0 ∧ k_aw K G i = false)) (fun _ t => va_P (dC, dI) vwCl ws t.heap ∧ va_D A ws ∧ hpS t.heap ≤ (hpS s.heap) ∧ t.heap.size ≤ s.heap.size) A) ([.ref (ad (50 + 16 * i))] : List Value).toArray s 0 0 A) (F0 m 8 ls []) := by
       intro fuel
       induction fuel with
       | zero => intro o_3 H locs ls hm; exact absurd hm (Nat.not_lt_zero _)
       | succ fuel_8 ih_7 =>
         intro o_3 H locs ls hm_4 v_5 v_6 hP hD hS hl
         rcases o_3 with _ | j_9
         · have hl : lv_has ls 2 [(1, .null), (0, .ref (ad (50 + 16 * i)))] := hl
           exact by
            refine lv_aload_nN hx hb dX9_areAwaitedOver_8 rfl (lv_at hl 0 rfl) ?_
            refine lv_ifnullN (tgt := 43) hx hb dX9_areAwaitedOver_9 (by decide) ?_
            refine lv_iconst (v := 1) hx hb dX9_areAwaitedOver_43 (by decide) ?_
            refine W_msr2 (fun hm1 hm2 hm3 => ?_)
            exact W.zret (v := 1) hx hb hr rfl (fun t ht hW => ⟨⟨1, (), rfl, (Or.inl ⟨rfl, (Eq.symm (by show true = k_aw K G i; have hX := v_6; (first | rw [cit_none] at hX | rw [cit_go h_i3 h_i4 (by omega) (by first | with_reducible assumption | omega)] at hX); (repeat (first | dsimp +instances only [c9n, c9f, c9T, c9G, c9K, c9F, b_come, b_leave, b_fill, awB, b_settle, b_wake, b_take, f_take, b_gather, f_gather, b_ask, a_ask, b_tell, c_close, d_close, k_add, k_rem, sco, k_clrF, k_mem, k_rebind, k_bnd, k_beg0, k_beg1, b_giveN, b_giveR, f_open, b_hand, k_op, b_turn, wlB, b_beat, f_anew, b_wipe, b_off, k_sadd, fits, frP, cntB, b_trace, b_child, k_lat, cond_true, cond_false, Option.elim_none, Option.elim_some, Option.getD_none, Option.getD_some] at hX | rw [eo_1] at hX | rw [if_pos (by first | with_reducible assumption | omega)] at hX | rw [if_neg (by first | with_reducible assumption | omega)] at hX | rw [jx_of (by omega)] at hX)); first | exact hX | (exfalso; omega) | exact hX))⟩), by rw [ht]; exact hP, hD, by rw [ht]; omega, by rw [ht]; omega⟩, hS.F ht⟩) hS.2.2 dX9_areAwaitedOver_44
         · have hl : lv_has ls 2 [(1, .ref (ad (50 + 16 * j_9))), (0, .ref (ad (50 + 16 * i)))] := hl
           have hj_9 : j_9 < M := v_5 _ rfl
           refine lv_aload_n hx hb dX9_areAwaitedOver_8 rfl (lv_at hl 0 rfl) ?_
           refine lv_ifnull hx hb dX9_areAwaitedOver_9 ?_
           refine lv_aload_n hx hb dX9_areAwaitedOver_12 rfl (lv_at hl 0 rfl) ?_
           refine va_get (D := (dC, dI)) (ci := 7) (v := .ref (ad (50 + 16 * j_9 + 1))) (C := RX7) (T := TX7) (N := 15) hx hb hg gb_7 hown hK hP (50 + 16 * j_9) (hQ.b0 hj_9) rfl 10 (by decide) (hg _ gm_fieldLink_RX9_151_ErrandGuild_Run_kin_LErrandGuild_Kin_) (fun _ h9 => h9) rfl dX9_areAwaitedOver_13 ?_
           refine va_get (D := (dC, dI)) (ci := 4) (v := .int (G j_9 12)) (C := RX4) (T := TX4) (N := 9) hx hb hg gb_4 hown hK hP (50 + 16 * j_9 + 1) (hQ.b1 hj_9) rfl 4 (by decide) (hg _ gm_fieldLink_RX9_379_ErrandGuild_Kin_claim_I_) (fun _ h9 => h9) rfl dX9_areAwaitedOver_16 ?_
           refine lv_iconst (v := 1) hx hb dX9_areAwaitedOver_19 (by decide) ?_
           refine lv_icmp_ne (tgt := 32) hx hb dX9_areAwaitedOver_20 (by decide) (fun c_10 => ?_) (fun c_10 => ?_)
           · simp only [i_lt, i_le, i_eq, ti_1] at c_10
             refine lv_aload_n hx hb dX9_areAwaitedOver_32 rfl (lv_at hl 0 rfl) ?_
             refine va_get (D := (dC, dI)) (ci := 7) (v := .ref (ad (50 + 16 * j_9 + 1))) (C := RX7) (T := TX7) (N := 15) hx hb hg gb_7 hown hK hP (50 + 16 * j_9) (hQ.b0 hj_9) rfl 10 (by decide) (hg _ gm_fieldLink_RX9_151_ErrandGuild_Run_kin_LErrandGuild_Kin_) (fun _ h9 => h9) rfl dX9_areAwaitedOver_33 ?_
             exact by
              refine va_get (D := (dC, dI)) (ci := 4) (v := va_rf (rA9 ad (K j_9 4))) (C := RX4) (T := TX4) (N := 9) hx hb hg gb_4 hown hK hP (50 + 16 * j_9 + 1) (hQ.b1 hj_9) rfl 7 (by decide) (hg _ gm_fieldLink_RX9_228_ErrandGuild_Kin_nextSibling_LErrandGuild_Run_) (fun _ h9 => h9) rfl dX9_areAwaitedOver_36 ?_
              rcases eo_11 : K j_9 4 with _ | j_12
              · refine W.eq (g2 := F0 m 39 ls [.null]) (by first | rfl | (rw [eo_11]; rfl)) ?_
                refine lv_astore_nN (lv' := [(1, .null), (0, .ref (ad (50 + 16 * i)))]) hx hb dX9_areAwaitedOver_39 rfl hl (by decide) rfl (fun ls hl => ?_)
                refine lv_goto (tgt := 8) hx hb dX9_areAwaitedOver_40 (by decide) ?_
                exact ih_7  none    H locs ls (by simp only [chM] at *; omega) (fun _ h => by cases h) (by show cit K (awB G) (fun _ => true) 201 none () = k_aw K G i; have hX := v_6; (first | rw [cit_none] at hX | rw [cit_go h_i3 h_i4 (by omega) (by first | with_reducible assumption | omega)] at hX); (repeat (first | dsimp +instances only [c9n, c9f, c9T, c9G, c9K, c9F, b_come, b_leave, b_fill, awB, b_settle, b_wake, b_take, f_take, b_gather, f_gather, b_ask, a_ask, b_tell, c_close, d_close, k_add, k_rem, sco, k_clrF, k_mem, k_rebind, k_bnd, k_beg0, k_beg1, b_giveN, b_giveR, f_open, b_hand, k_op, b_turn, wlB, b_beat, f_anew, b_wipe, b_off, k_sadd, fits, frP, cntB, b_trace, b_child, k_lat, cond_true, cond_false, Option.elim_none, Option.elim_some, Option.getD_none, Option.getD_some] at hX | rw [eo_1] at hX | rw [eo_11] at hX | rw [if_pos (by first | with_reducible assumption | omega)] at hX | rw [if_neg (by first | with_reducible assumption | omega)] at hX | rw [jx_of (by omega)] at hX)); first | exact hX | (exfalso; omega) | exact hX) hP hD hS (lv_sub hl [0, 1] rfl)
              · refine W.eq (g2 := F0 m 39 ls [.ref (ad (50 + 16 * j_12))]) (by first | rfl | (rw [eo_11]; rfl)) ?_
                have hj_12 : j_12 < M := h_i3 _ _ _ hj_9 eo_11
                refine lv_astore_n (lv' := [(1, .ref (ad (50 + 16 * j_12))), (0, .ref (ad (50 + 16 * i)))]) hx hb dX9_areAwaitedOver_39 rfl hl (by decide) rfl (fun ls hl => ?_)
                refine lv_goto (tgt := 8) hx hb dX9_areAwaitedOver_40 (by decide) ?_
                exact ih_7  (some j_12)    H locs ls (by have := h_i4 _ _ hj_9 eo_11; simp only [chM] at *; omega) (fun _ h => by cases h; exact hj_12) (by show cit K (awB G) (fun _ => true) 201 (some j_12) () = k_aw K G i; have hX := v_6; (first | rw [cit_none] at hX | rw [cit_go h_i3 h_i4 (by omega) (by first | with_reducible assumption | omega)] at hX); (repeat (first | dsimp +instances only [c9n, c9f, c9T, c9G, c9K, c9F, b_come, b_leave, b_fill, awB, b_settle, b_wake, b_take, f_take, b_gather, f_gather, b_ask, a_ask, b_tell, c_close, d_close, k_add, k_rem, sco, k_clrF, k_mem, k_rebind, k_bnd, k_beg0, k_beg1, b_giveN, b_giveR, f_open, b_hand, k_op, b_turn, wlB, b_beat, f_anew, b_wipe, b_off, k_sadd, fits, frP, cntB, b_trace, b_child, k_lat, cond_true, cond_false, Option.elim_none, Option.elim_some, Option.getD_none, Option.getD_some] at hX | rw [eo_1] at hX | rw [eo_11] at hX | rw [if_pos (by first | with_reducible assumption | omega)] at hX | rw [if_neg (by first | with_reducible assumption | omega)] at hX | rw [jx_of (by omega)] at hX)); first | exact hX | (exfalso; omega) | exact hX) hP hD hS (lv_sub hl [0, 1] rfl)
           · simp only [i_lt, i_le, i_eq, ti_1] at c_10
             refine lv_aload_n hx hb dX9_areAwaitedOver_23 rfl (lv_at hl 0 rfl) ?_
             have hCc : ([(50 + 16 * j_9)] : List Nat).map (fun i => ws[i]?) = ([(ad (50 + 16 * j_9), .inr (7, [.int (G j_9 0), .int (G j_9 1), .int (G j_9 2), .int (G j_9 3), .int (G j_9 4), .int (G j_9 5), .int (G j_9 6), .int (G j_9 7), .int (G j_9 8), .int (G j_9 9), .ref (ad (50 + 16 * j_9 + 1)), .ref (ad (50 + 16 * j_9 + 2)), .ref (ad (50 + 16 * j_9 + 6)), .ref (ad (50 + 16 * j_9 + 13)), .ref (ad (50 + 16 * j_9 + 14))]))] : va_W).map some := mp1 (hQ.b0 hj_9)
             have hNd : ([(50 + 16 * j_9)] : List Nat).Nodup := (nd_off (50 + 16 * j_9) (l := [0]) (by decide))
             have hPc := hP.pick [(50 + 16 * j_9)] hCc
             have hDc := hD.pick [(50 + 16 * j_9)] hNd hCc
             have hKc := hK.sub (tys' := []) [] rfl
             have hFc := va_free (wc := [(ad (50 + 16 * j_9), .inr (7, [.int (G j_9 0), .int (G j_9 1), .int (G j_9 2), .int (G j_9 3), .int (G j_9 4), .int (G j_9 5), .int (G j_9 6), .int (G j_9 7), .int (G j_9 8), .int (G j_9 9), .ref (ad (50 + 16 * j_9 + 1)), .ref (ad (50 + 16 * j_9 + 2)), .ref (ad (50 + 16 * j_9 + 6)), .ref (ad (50 + 16 * j_9 + 13)), .ref (ad (50 + 16 * j_9 + 14))]))]) hD hS hA [(50 + 16 * j_9)] hCc
             refine va_calli (va_runV (As := []) (rest := []) ⟨hx, hb, hml, hown, hg⟩ (c_X7_isOver l dC dI (ad (50 + 16 * j_9)) (ad (50 + 16 * j_9 + 1)) (ad (50 + 16 * j_9 + 2)) (ad (50 + 16 * j_9 + 6)) (ad (50 + 16 * j_9 + 13)) (ad (50 + 16 * j_9 + 14)) (G j_9 0) (G j_9 1) (G j_9 2) (G j_9 3) (G j_9 4) (G j_9 5) (G j_9 6) (G j_9 7) (G j_9 8) (G j_9 9) H.size ) (cwV 0 hg (gw_V gm_methodLink_RX9_138_yX7_isOver gm_instanceMethod_yX7_isOver gm_selects_RX7_yX7_isOver_yX7_isOver gm_initialized_RX7 gm_code_yX7_isOver_cX7_isOver_1_some_boolean_) rfl rfl rfl (by decide +kernel) ⟨Nat.le_of_ble_eq_true rfl, Nat.le_of_ble_eq_true rfl⟩) ⟨fun a U g mk q => by obtain ⟨q0, q1, qP, qK, qD, qN⟩ := q; exact ⟨q0, q1, qP, va_K.moved (u := U) (U := U.calling g mk a) (Vm.Alike.refl U.vm) qK, qD, nx_same (u := U) (U := U.calling g mk a) rfl qN⟩, va_recv hK hP (ci := 7) (q0 := (50 + 16 * j_9)) rfl (hQ.b0 hj_9), fun U hU hW => ⟨rfl, by rw [hU], by rw [hU]; exact hPc, va_K.moved hW.alike hKc, hDc.weaken (fun _ _ _ _ => trivial), nx_warm hW hN⟩⟩ rfl rfl hl.1 rfl (lv_room (Nat.le_of_ble_eq_true rfl)) dX9_areAwaitedOver_24 ⟨Nat.le_of_ble_eq_true rfl, Nat.le_of_ble_eq_true rfl⟩) hS (fun q _ h => hFc q h) hFc (fun r_13 u_14 t H1 locs ht hvm hw hB hz1 hk1 hS => ?_)
             obtain ⟨hP1, hD1⟩ := hB
             rw [ht] at hP1
             obtain ⟨hP, hD⟩ := va_replS hP hD [(50 + 16 * j_9)] hCc hNd hk1 hFc hP1 hD1
             generalize H1 = H at hP hS ⊢
             rcases hw with ⟨rfl, w_15⟩ | ⟨rfl, w_15⟩
             · refine lv_if_ne (tgt := 32) hx hb dX9_areAwaitedOver_27 (by decide) (fun _ => ?_) (fun c_16 => absurd c_16 (by decide))
               exact by
                refine lv_aload_n hx hb dX9_areAwaitedOver_32 rfl (lv_at hl 0 rfl) ?_
                refine va_get (D := (dC, dI)) (ci := 7) (v := .ref (ad (50 + 16 * j_9 + 1))) (C := RX7) (T := TX7) (N := 15) hx hb hg gb_7 hown hK hP (50 + 16 * j_9) (hQ.b0 hj_9) rfl 10 (by decide) (hg _ gm_fieldLink_RX9_151_ErrandGuild_Run_kin_LErrandGuild_Kin_) (fun _ h9 => h9) rfl dX9_areAwaitedOver_33 ?_
                refine va_get (D := (dC, dI)) (ci := 4) (v := va_rf (rA9 ad (K j_9 4))) (C := RX4) (T := TX4) (N := 9) hx hb hg gb_4 hown hK hP (50 + 16 * j_9 + 1) (hQ.b1 hj_9) rfl 7 (by decide) (hg _ gm_fieldLink_RX9_228_ErrandGuild_Kin_nextSibling_LErrandGuild_Run_) (fun _ h9 => h9) rfl dX9_areAwaitedOver_36 ?_
                rcases eo_17 : K j_9 4 with _ | j_18
                · refine W.eq (g2 := F0 m 39 ls [.null]) (by first | rfl | (rw [eo_17]; rfl)) ?_
                  refine lv_astore_nN (lv' := [(1, .null), (0, .ref (ad (50 + 16 * i)))]) hx hb dX9_areAwaitedOver_39 rfl hl (by decide) rfl (fun ls hl => ?_)
                  refine lv_goto (tgt := 8) hx hb dX9_areAwaitedOver_40 (by decide) ?_
                  exact ih_7  none    H locs ls (by simp only [chM] at *; omega) (fun _ h => by cases h) (by show cit K (awB G) (fun _ => true) 201 none () = k_aw K G i; have hX := v_6; (first | rw [cit_none] at hX | rw [cit_go h_i3 h_i4 (by omega) (by first | with_reducible assumption | omega)] at hX); (repeat (first | dsimp +instances only [c9n, c9f, c9T, c9G, c9K, c9F, b_come, b_leave, b_fill, awB, b_settle, b_wake, b_take, f_take, b_gather, f_gather, b_ask, a_ask, b_tell, c_close, d_close, k_add, k_rem, sco, k_clrF, k_mem, k_rebind, k_bnd, k_beg0, k_beg1, b_giveN, b_giveR, f_open, b_hand, k_op, b_turn, wlB, b_beat, f_anew, b_wipe, b_off, k_sadd, fits, frP, cntB, b_trace, b_child, k_lat, cond_true, cond_false, Option.elim_none, Option.elim_some, Option.getD_none, Option.getD_some] at hX | rw [eo_1] at hX | rw [eo_17] at hX | rw [if_pos (by first | with_reducible assumption | omega)] at hX | rw [if_neg (by first | with_reducible assumption | omega)] at hX | rw [jx_of (by omega)] at hX)); first | exact hX | (exfalso; omega) | exact hX) hP hD hS (lv_sub hl [0, 1] rfl)
                · refine W.eq (g2 := F0 m 39 ls [.ref (ad (50 + 16 * j_18))]) (by first | rfl | (rw [eo_17]; rfl)) ?_
                  have hj_18 : j_18 < M := h_i3 _ _ _ hj_9 eo_17
                  refine lv_astore_n (lv' := [(1, .ref (ad (50 + 16 * j_18))), (0, .ref (ad (50 + 16 * i)))]) hx hb dX9_areAwaitedOver_39 rfl hl (by decide) rfl (fun ls hl => ?_)
                  refine lv_goto (tgt := 8) hx hb dX9_areAwaitedOver_40 (by decide) ?_
                  exact ih_7  (some j_18)    H locs ls (by have := h_i4 _ _ hj_9 eo_17; simp only [chM] at *; omega) (fun _ h => by cases h; exact hj_18) (by show cit K (awB G) (fun _ => true) 201 (some j_18) () = k_aw K G i; have hX := v_6; (first | rw [cit_none] at hX | rw [cit_go h_i3 h_i4 (by omega) (by first | with_reducible assumption | omega)] at hX); (repeat (first | dsimp +instances only [c9n, c9f, c9T, c9G, c9K, c9F, b_come, b_leave, b_fill, awB, b_settle, b_wake, b_take, f_take, b_gather, f_gather, b_ask, a_ask, b_tell, c_close, d_close, k_add, k_rem, sco, k_clrF, k_mem, k_rebind, k_bnd, k_beg0, k_beg1, b_giveN, b_giveR, f_open, b_hand, k_op, b_turn, wlB, b_beat, f_anew, b_wipe, b_off, k_sadd, fits, frP, cntB, b_trace, b_child, k_lat, cond_true, cond_false, Option.elim_none, Option.elim_some, Option.getD_none, Option.getD_some] at hX | rw [eo_1] at hX | rw [eo_17] at hX | rw [if_pos (by first | with_reducible assumption | omega)] at hX | rw [if_neg (by first | with_reducible assumption | omega)] at hX | rw [jx_of (by omega)] at hX)); first | exact hX | (exfalso; omega) | exact hX) hP hD hS (lv_sub hl [0, 1] rfl)
             · refine lv_if_ne (tgt := 32) hx hb dX9_areAwaitedOver_27 (by decide) (fun c_19 => absurd c_19 (by decide)) (fun _ => ?_)
               refine lv_iconst (v := 0) hx hb dX9_areAwaitedOver_30 (by decide) ?_
               refine W_msr2 (fun hm1 hm2 hm3 => ?_)
               exact W.zret (v := 0) hx hb hr rfl (fun t ht hW => ⟨⟨0, (), rfl, (Or.inr ⟨rfl, (Eq.symm (by show false = k_aw K G i; have hX := v_6; (first | rw [cit_none] at hX | rw [cit_go h_i3 h_i4 (by omega) (by first | with_reducible assumption | omega)] at hX); (repeat (first | dsimp +instances only [c9n, c9f, c9T, c9G, c9K, c9F, b_come, b_leave, b_fill, awB, b_settle, b_wake, b_take, f_take, b_gather, f_gather, b_ask, a_ask, b_tell, c_close, d_close, k_add, k_rem, sco, k_clrF, k_mem, k_rebind, k_bnd, k_beg0, k_beg1, b_giveN, b_giveR, f_open, b_hand, k_op, b_turn, wlB, b_beat, f_anew, b_wipe, b_off, k_sadd, fits, frP, cntB, b_trace, b_child, k_lat, cond_true, cond_false, Option.elim_none, Option.elim_some, Option.getD_none, Option.getD_some] at hX | rw [eo_1] at hX | rw [if_pos (by first | with_reducible assumption | omega)] at hX | rw [if_neg (by first | with_reducible assumption | omega)] at hX | rw [jx_of (by omega)] at hX)); first | exact hX | (exfalso; omega) | exact hX))⟩), by rw [ht]; exact hP, hD, by rw [ht]; omega, by rw [ht]; omega⟩, hS.F ht⟩) hS.2.2 dX9_areAwaitedOver_31
     exact L8 _  none    _ _ _ (Nat.lt_succ_self _) (fun _ h => by cases h) (by show cit K (awB G) (fun _ => true) 201 none () = k_aw K G i; have hX := (k_aw.eq_1 K G i).symm; (repeat (first | dsimp +instances only [c9n, c9f, c9T, c9G, c9K, c9F, b_come, b_leave, b_fill, awB, b_settle, b_wake, b_take, f_take, b_gather, f_gather, b_ask, a_ask, b_tell, c_close, d_close, k_add, k_rem, sco, k_clrF, k_mem, k_rebind, k_bnd, k_beg0, k_beg1, b_giveN, b_giveR, f_open, b_hand, k_op, b_turn, wlB, b_beat, f_anew, b_wipe, b_off, k_sadd, fits, frP, cntB, b_trace, b_child, k_lat, cond_true, cond_false, Option.elim_none, Option.elim_some, Option.getD_none, Option.getD_some] at hX | rw [eo_1] at hX | rw [if_pos (by first | with_reducible assumption | omega)] at hX | rw [if_neg (by first | with_reducible assumption | omega)] at hX | rw [jx_of (by omega)] at hX)); first | exact hX | (exfalso; omega) | exact hX) hP hD hS (lv_sub hl [0, 1] rfl)
   · refine W.eq (g2 := F0 m 7 ls [.ref (ad (50 + 16 * j_2))]) (by first | rfl | (rw [eo_1]; rfl)) ?_
     have hj_2 : j_2 < M := h_i3 _ _ _ hi eo_1
     refine lv_astore_n (lv' := [(1, .ref (ad (50 + 16 * j_2))), (0, .ref (ad (50 + 16 * i)))]) hx hb dX9_areAwaitedOver_7 rfl hl (by decide) rfl (fun ls hl => ?_)
     have L8 : ∀ (fuel : Nat)  (o_20 : Option Nat)    (H : Heap) (locs : List Loc) (ls : Array Slot), chM M o_20 < fuel → (∀ j : Nat, o_20 = some j → j < M) → (cit K (awB G) (fun _ => true) 201 o_20 () = k_aw K G i) → va_P (dC, dI) vwCl ws H → va_D A ws → va_S A s.heap H locs → lv_has ls 2 [(1, va_rf (rA9 ad o_20)), (0, .ref (ad (50 + 16 * i)))] → W p l e (headSpec (.code yX9_areAwaitedOver cX9_areAwaitedOver 2 (some .boolean) :: gw) ({ frames := 1, cells := 0, slots := 0, locals := 20 })).room s m ([.ref (ad (50 + 16 * i))] : List Value).toArray below meth c H locs 0 0 (MQ below (va_Qi (fun (r : Int32) (u : Unit) => (r = 1 ∧ k_aw K G i = true) ∨ (r = 0 ∧ k_aw K G i = false)) (fun _ t => va_P (dC, dI) vwCl ws t.heap ∧ va_D A ws ∧ hpS t.heap ≤ (hpS s.heap) ∧ t.heap.size ≤ s.heap.size) A) ([.ref (ad (50 + 16 * i))] : List Value).toArray s 0 0 A) (F0 m 8 ls []) := by
       intro fuel
       induction fuel with
       | zero => intro o_20 H locs ls hm; exact absurd hm (Nat.not_lt_zero _)
       | succ fuel_25 ih_24 =>
         intro o_20 H locs ls hm_21 v_22 v_23 hP hD hS hl
         rcases o_20 with _ | j_26
         · have hl : lv_has ls 2 [(1, .null), (0, .ref (ad (50 + 16 * i)))] := hl
           exact by
            refine lv_aload_nN hx hb dX9_areAwaitedOver_8 rfl (lv_at hl 0 rfl) ?_
            refine lv_ifnullN (tgt := 43) hx hb dX9_areAwaitedOver_9 (by decide) ?_
            refine lv_iconst (v := 1) hx hb dX9_areAwaitedOver_43 (by decide) ?_
            refine W_msr2 (fun hm1 hm2 hm3 => ?_)
            exact W.zret (v := 1) hx hb hr rfl (fun t ht hW => ⟨⟨1, (), rfl, (Or.inl ⟨rfl, (Eq.symm (by show true = k_aw K G i; have hX := v_23; (first | rw [cit_none] at hX | rw [cit_go h_i3 h_i4 (by omega) (by first | with_reducible assumption | omega)] at hX); (repeat (first | dsimp +instances only [c9n, c9f, c9T, c9G, c9K, c9F, b_come, b_leave, b_fill, awB, b_settle, b_wake, b_take, f_take, b_gather, f_gather, b_ask, a_ask, b_tell, c_close, d_close, k_add, k_rem, sco, k_clrF, k_mem, k_rebind, k_bnd, k_beg0, k_beg1, b_giveN, b_giveR, f_open, b_hand, k_op, b_turn, wlB, b_beat, f_anew, b_wipe, b_off, k_sadd, fits, frP, cntB, b_trace, b_child, k_lat, cond_true, cond_false, Option.elim_none, Option.elim_some, Option.getD_none, Option.getD_some] at hX | rw [eo_1] at hX | rw [if_pos (by first | with_reducible assumption | omega)] at hX | rw [if_neg (by first | with_reducible assumption | omega)] at hX | rw [jx_of (by omega)] at hX)); first | exact hX | (exfalso; omega) | exact hX))⟩), by rw [ht]; exact hP, hD, by rw [ht]; omega, by rw [ht]; omega⟩, hS.F ht⟩) hS.2.2 dX9_areAwaitedOver_44
         · have hl : lv_has ls 2 [(1, .ref (ad (50 + 16 * j_26))), (0, .ref (ad (50 + 16 * i)))] := hl
           have hj_26 : j_26 < M := v_22 _ rfl
           refine lv_aload_n hx hb dX9_areAwaitedOver_8 rfl (lv_at hl 0 rfl) ?_
           refine lv_ifnull hx hb dX9_areAwaitedOver_9 ?_
           refine lv_aload_n hx hb dX9_areAwaitedOver_12 rfl (lv_at hl 0 rfl) ?_
           refine va_get (D := (dC, dI)) (ci := 7) (v := .ref (ad (50 + 16 * j_26 + 1))) (C := RX7) (T := TX7) (N := 15) hx hb hg gb_7 hown hK hP (50 + 16 * j_26) (hQ.b0 hj_26) rfl 10 (by decide) (hg _ gm_fieldLink_RX9_151_ErrandGuild_Run_kin_LErrandGuild_Kin_) (fun _ h9 => h9) rfl dX9_areAwaitedOver_13 ?_
           refine va_get (D := (dC, dI)) (ci := 4) (v := .int (G j_26 12)) (C := RX4) (T := TX4) (N := 9) hx hb hg gb_4 hown hK hP (50 + 16 * j_26 + 1) (hQ.b1 hj_26) rfl 4 (by decide) (hg _ gm_fieldLink_RX9_379_ErrandGuild_Kin_claim_I_) (fun _ h9 => h9) rfl dX9_areAwaitedOver_16 ?_
           refine lv_iconst (v := 1) hx hb dX9_areAwaitedOver_19 (by decide) ?_
           refine lv_icmp_ne (tgt := 32) hx hb dX9_areAwaitedOver_20 (by decide) (fun c_27 => ?_) (fun c_27 => ?_)
           · simp only [i_lt, i_le, i_eq, ti_1] at c_27
             refine lv_aload_n hx hb dX9_areAwaitedOver_32 rfl (lv_at hl 0 rfl) ?_
             refine va_get (D := (dC, dI)) (ci := 7) (v := .ref (ad (50 + 16 * j_26 + 1))) (C := RX7) (T := TX7) (N := 15) hx hb hg gb_7 hown hK hP (50 + 16 * j_26) (hQ.b0 hj_26) rfl 10 (by decide) (hg _ gm_fieldLink_RX9_151_ErrandGuild_Run_kin_LErrandGuild_Kin_) (fun _ h9 => h9) rfl dX9_areAwaitedOver_33 ?_
             exact by
              refine va_get (D := (dC, dI)) (ci := 4) (v := va_rf (rA9 ad (K j_26 4))) (C := RX4) (T := TX4) (N := 9) hx hb hg gb_4 hown hK hP (50 + 16 * j_26 + 1) (hQ.b1 hj_26) rfl 7 (by decide) (hg _ gm_fieldLink_RX9_228_ErrandGuild_Kin_nextSibling_LErrandGuild_Run_) (fun _ h9 => h9) rfl dX9_areAwaitedOver_36 ?_
              rcases eo_28 : K j_26 4 with _ | j_29
              · refine W.eq (g2 := F0 m 39 ls [.null]) (by first | rfl | (rw [eo_28]; rfl)) ?_
                refine lv_astore_nN (lv' := [(1, .null), (0, .ref (ad (50 + 16 * i)))]) hx hb dX9_areAwaitedOver_39 rfl hl (by decide) rfl (fun ls hl => ?_)
                refine lv_goto (tgt := 8) hx hb dX9_areAwaitedOver_40 (by decide) ?_
                exact ih_24  none    H locs ls (by simp only [chM] at *; omega) (fun _ h => by cases h) (by show cit K (awB G) (fun _ => true) 201 none () = k_aw K G i; have hX := v_23; (first | rw [cit_none] at hX | rw [cit_go h_i3 h_i4 (by omega) (by first | with_reducible assumption | omega)] at hX); (repeat (first | dsimp +instances only [c9n, c9f, c9T, c9G, c9K, c9F, b_come, b_leave, b_fill, awB, b_settle, b_wake, b_take, f_take, b_gather, f_gather, b_ask, a_ask, b_tell, c_close, d_close, k_add, k_rem, sco, k_clrF, k_mem, k_rebind, k_bnd, k_beg0, k_beg1, b_giveN, b_giveR, f_open, b_hand, k_op, b_turn, wlB, b_beat, f_anew, b_wipe, b_off, k_sadd, fits, frP, cntB, b_trace, b_child, k_lat, cond_true, cond_false, Option.elim_none, Option.elim_some, Option.getD_none, Option.getD_some] at hX | rw [eo_1] at hX | rw [eo_28] at hX | rw [if_pos (by first | with_reducible assumption | omega)] at hX | rw [if_neg (by first | with_reducible assumption | omega)] at hX | rw [jx_of (by omega)] at hX)); first | exact hX | (exfalso; omega) | exact hX) hP hD hS (lv_sub hl [0, 1] rfl)
              · refine W.eq (g2 := F0 m 39 ls [.ref (ad (50 + 16 * j_29))]) (by first | rfl | (rw [eo_28]; rfl)) ?_
                have hj_29 : j_29 < M := h_i3 _ _ _ hj_26 eo_28
                refine lv_astore_n (lv' := [(1, .ref (ad (50 + 16 * j_29))), (0, .ref (ad (50 + 16 * i)))]) hx hb dX9_areAwaitedOver_39 rfl hl (by decide) rfl (fun ls hl => ?_)
                refine lv_goto (tgt := 8) hx hb dX9_areAwaitedOver_40 (by decide) ?_
                exact ih_24  (some j_29)    H locs ls (by have := h_i4 _ _ hj_26 eo_28; simp only [chM] at *; omega) (fun _ h => by cases h; exact hj_29) (by show cit K (awB G) (fun _ => true) 201 (some j_29) () = k_aw K G i; have hX := v_23; (first | rw [cit_none] at hX | rw [cit_go h_i3 h_i4 (by omega) (by first | with_reducible assumption | omega)] at hX); (repeat (first | dsimp +instances only [c9n, c9f, c9T, c9G, c9K, c9F, b_come, b_leave, b_fill, awB, b_settle, b_wake, b_take, f_take, b_gather, f_gather, b_ask, a_ask, b_tell, c_close, d_close, k_add, k_rem, sco, k_clrF, k_mem, k_rebind, k_bnd, k_beg0, k_beg1, b_giveN, b_giveR, f_open, b_hand, k_op, b_turn, wlB, b_beat, f_anew, b_wipe, b_off, k_sadd, fits, frP, cntB, b_trace, b_child, k_lat, cond_true, cond_false, Option.elim_none, Option.elim_some, Option.getD_none, Option.getD_some] at hX | rw [eo_1] at hX | rw [eo_28] at hX | rw [if_pos (by first | with_reducible assumption | omega)] at hX | rw [if_neg (by first | with_reducible assumption | omega)] at hX | rw [jx_of (by omega)] at hX)); first | exact hX | (exfalso; omega) | exact hX) hP hD hS (lv_sub hl [0, 1] rfl)
           · simp only [i_lt, i_le, i_eq, ti_1] at c_27
             refine lv_aload_n hx hb dX9_areAwaitedOver_23 rfl (lv_at hl 0 rfl) ?_
             have hCc : ([(50 + 16 * j_26)] : List Nat).map (fun i => ws[i]?) = ([(ad (50 + 16 * j_26), .inr (7, [.int (G j_26 0), .int (G j_26 1), .int (G j_26 2), .int (G j_26 3), .int (G j_26 4), .int (G j_26 5), .int (G j_26 6), .int (G j_26 7), .int (G j_26 8), .int (G j_26 9), .ref (ad (50 + 16 * j_26 + 1)), .ref (ad (50 + 16 * j_26 + 2)), .ref (ad (50 + 16 * j_26 + 6)), .ref (ad (50 + 16 * j_26 + 13)), .ref (ad (50 + 16 * j_26 + 14))]))] : va_W).map some := mp1 (hQ.b0 hj_26)
             have hNd : ([(50 + 16 * j_26)] : List Nat).Nodup := (nd_off (50 + 16 * j_26) (l := [0]) (by decide))
             have hPc := hP.pick [(50 + 16 * j_26)] hCc
             have hDc := hD.pick [(50 + 16 * j_26)] hNd hCc
             have hKc := hK.sub (tys' := []) [] rfl
             have hFc := va_free (wc := [(ad (50 + 16 * j_26), .inr (7, [.int (G j_26 0), .int (G j_26 1), .int (G j_26 2), .int (G j_26 3), .int (G j_26 4), .int (G j_26 5), .int (G j_26 6), .int (G j_26 7), .int (G j_26 8), .int (G j_26 9), .ref (ad (50 + 16 * j_26 + 1)), .ref (ad (50 + 16 * j_26 + 2)), .ref (ad (50 + 16 * j_26 + 6)), .ref (ad (50 + 16 * j_26 + 13)), .ref (ad (50 + 16 * j_26 + 14))]))]) hD hS hA [(50 + 16 * j_26)] hCc
             refine va_calli (va_runV (As := []) (rest := []) ⟨hx, hb, hml, hown, hg⟩ (c_X7_isOver l dC dI (ad (50 + 16 * j_26)) (ad (50 + 16 * j_26 + 1)) (ad (50 + 16 * j_26 + 2)) (ad (50 + 16 * j_26 + 6)) (ad (50 + 16 * j_26 + 13)) (ad (50 + 16 * j_26 + 14)) (G j_26 0) (G j_26 1) (G j_26 2) (G j_26 3) (G j_26 4) (G j_26 5) (G j_26 6) (G j_26 7) (G j_26 8) (G j_26 9) H.size ) (cwV 0 hg (gw_V gm_methodLink_RX9_138_yX7_isOver gm_instanceMethod_yX7_isOver gm_selects_RX7_yX7_isOver_yX7_isOver gm_initialized_RX7 gm_code_yX7_isOver_cX7_isOver_1_some_boolean_) rfl rfl rfl (by decide +kernel) ⟨Nat.le_of_ble_eq_true rfl, Nat.le_of_ble_eq_true rfl⟩) ⟨fun a U g mk q => by obtain ⟨q0, q1, qP, qK, qD, qN⟩ := q; exact ⟨q0, q1, qP, va_K.moved (u := U) (U := U.calling g mk a) (Vm.Alike.refl U.vm) qK, qD, nx_same (u := U) (U := U.calling g mk a) rfl qN⟩, va_recv hK hP (ci := 7) (q0 := (50 + 16 * j_26)) rfl (hQ.b0 hj_26), fun U hU hW => ⟨rfl, by rw [hU], by rw [hU]; exact hPc, va_K.moved hW.alike hKc, hDc.weaken (fun _ _ _ _ => trivial), nx_warm hW hN⟩⟩ rfl rfl hl.1 rfl (lv_room (Nat.le_of_ble_eq_true rfl)) dX9_areAwaitedOver_24 ⟨Nat.le_of_ble_eq_true rfl, Nat.le_of_ble_eq_true rfl⟩) hS (fun q _ h => hFc q h) hFc (fun r_30 u_31 t H1 locs ht hvm hw hB hz1 hk1 hS => ?_)
             obtain ⟨hP1, hD1⟩ := hB
             rw [ht] at hP1
             obtain ⟨hP, hD⟩ := va_replS hP hD [(50 + 16 * j_26)] hCc hNd hk1 hFc hP1 hD1
             generalize H1 = H at hP hS ⊢
             rcases hw with ⟨rfl, w_32⟩ | ⟨rfl, w_32⟩
             · refine lv_if_ne (tgt := 32) hx hb dX9_areAwaitedOver_27 (by decide) (fun _ => ?_) (fun c_33 => absurd c_33 (by decide))
               exact by
                refine lv_aload_n hx hb dX9_areAwaitedOver_32 rfl (lv_at hl 0 rfl) ?_
                refine va_get (D := (dC, dI)) (ci := 7) (v := .ref (ad (50 + 16 * j_26 + 1))) (C := RX7) (T := TX7) (N := 15) hx hb hg gb_7 hown hK hP (50 + 16 * j_26) (hQ.b0 hj_26) rfl 10 (by decide) (hg _ gm_fieldLink_RX9_151_ErrandGuild_Run_kin_LErrandGuild_Kin_) (fun _ h9 => h9) rfl dX9_areAwaitedOver_33 ?_
                refine va_get (D := (dC, dI)) (ci := 4) (v := va_rf (rA9 ad (K j_26 4))) (C := RX4) (T := TX4) (N := 9) hx hb hg gb_4 hown hK hP (50 + 16 * j_26 + 1) (hQ.b1 hj_26) rfl 7 (by decide) (hg _ gm_fieldLink_RX9_228_ErrandGuild_Kin_nextSibling_LErrandGuild_Run_) (fun _ h9 => h9) rfl dX9_areAwaitedOver_36 ?_
                rcases eo_34 : K j_26 4 with _ | j_35
                · refine W.eq (g2 := F0 m 39 ls [.null]) (by first | rfl | (rw [eo_34]; rfl)) ?_
                  refine lv_astore_nN (lv' := [(1, .null), (0, .ref (ad (50 + 16 * i)))]) hx hb dX9_areAwaitedOver_39 rfl hl (by decide) rfl (fun ls hl => ?_)
                  refine lv_goto (tgt := 8) hx hb dX9_areAwaitedOver_40 (by decide) ?_
                  exact ih_24  none    H locs ls (by simp only [chM] at *; omega) (fun _ h => by cases h) (by show cit K (awB G) (fun _ => true) 201 none () = k_aw K G i; have hX := v_23; (first | rw [cit_none] at hX | rw [cit_go h_i3 h_i4 (by omega) (by first | with_reducible assumption | omega)] at hX); (repeat (first | dsimp +instances only [c9n, c9f, c9T, c9G, c9K, c9F, b_come, b_leave, b_fill, awB, b_settle, b_wake, b_take, f_take, b_gather, f_gather, b_ask, a_ask, b_tell, c_close, d_close, k_add, k_rem, sco, k_clrF, k_mem, k_rebind, k_bnd, k_beg0, k_beg1, b_giveN, b_giveR, f_open, b_hand, k_op, b_turn, wlB, b_beat, f_anew, b_wipe, b_off, k_sadd, fits, frP, cntB, b_trace, b_child, k_lat, cond_true, cond_false, Option.elim_none, Option.elim_some, Option.getD_none, Option.getD_some] at hX | rw [eo_1] at hX | rw [eo_34] at hX | rw [if_pos (by first | with_reducible assumption | omega)] at hX | rw [if_neg (by first | with_reducible assumption | omega)] at hX | rw [jx_of (by omega)] at hX)); first | exact hX | (exfalso; omega) | exact hX) hP hD hS (lv_sub hl [0, 1] rfl)
                · refine W.eq (g2 := F0 m 39 ls [.ref (ad (50 + 16 * j_35))]) (by first | rfl | (rw [eo_34]; rfl)) ?_
                  have hj_35 : j_35 < M := h_i3 _ _ _ hj_26 eo_34
                  refine lv_astore_n (lv' := [(1, .ref (ad (50 + 16 * j_35))), (0, .ref (ad (50 + 16 * i)))]) hx hb dX9_areAwaitedOver_39 rfl hl (by decide) rfl (fun ls hl => ?_)
                  refine lv_goto (tgt := 8) hx hb dX9_areAwaitedOver_40 (by decide) ?_
                  exact ih_24  (some j_35)    H locs ls (by have := h_i4 _ _ hj_26 eo_34; simp only [chM] at *; omega) (fun _ h => by cases h; exact hj_35) (by show cit K (awB G) (fun _ => true) 201 (some j_35) () = k_aw K G i; have hX := v_23; (first | rw [cit_none] at hX | rw [cit_go h_i3 h_i4 (by omega) (by first | with_reducible assumption | omega)] at hX); (repeat (first | dsimp +instances only [c9n, c9f, c9T, c9G, c9K, c9F, b_come, b_leave, b_fill, awB, b_settle, b_wake, b_take, f_take, b_gather, f_gather, b_ask, a_ask, b_tell, c_close, d_close, k_add, k_rem, sco, k_clrF, k_mem, k_rebind, k_bnd, k_beg0, k_beg1, b_giveN, b_giveR, f_open, b_hand, k_op, b_turn, wlB, b_beat, f_anew, b_wipe, b_off, k_sadd, fits, frP, cntB, b_trace, b_child, k_lat, cond_true, cond_false, Option.elim_none, Option.elim_some, Option.getD_none, Option.getD_some] at hX | rw [eo_1] at hX | rw [eo_34] at hX | rw [if_pos (by first | with_reducible assumption | omega)] at hX | rw [if_neg (by first | with_reducible assumption | omega)] at hX | rw [jx_of (by omega)] at hX)); first | exact hX | (exfalso; omega) | exact hX) hP hD hS (lv_sub hl [0, 1] rfl)
             · refine lv_if_ne (tgt := 32) hx hb dX9_areAwaitedOver_27 (by decide) (fun c_36 => absurd c_36 (by decide)) (fun _ => ?_)
               refine lv_iconst (v := 0) hx hb dX9_areAwaitedOver_30 (by decide) ?_
               refine W_msr2 (fun hm1 hm2 hm3 => ?_)
               exact W.zret (v := 0) hx hb hr rfl (fun t ht hW => ⟨⟨0, (), rfl, (Or.inr ⟨rfl, (Eq.symm (by show false = k_aw K G i; have hX := v_23; (first | rw [cit_none] at hX | rw [cit_go h_i3 h_i4 (by omega) (by first | with_reducible assumption | omega)] at hX); (repeat (first | dsimp +instances only [c9n, c9f, c9T, c9G, c9K, c9F, b_come, b_leave, b_fill, awB, b_settle, b_wake, b_take, f_take, b_gather, f_gather, b_ask, a_ask, b_tell, c_close, d_close, k_add, k_rem, sco, k_clrF, k_mem, k_rebind, k_bnd, k_beg0, k_beg1, b_giveN, b_giveR, f_open, b_hand, k_op, b_turn, wlB, b_beat, f_anew, b_wipe, b_off, k_sadd, fits, frP, cntB, b_trace, b_child, k_lat, cond_true, cond_false, Option.elim_none, Option.elim_some, Option.getD_none, Option.getD_some] at hX | rw [eo_1] at hX | rw [if_pos (by first | with_reducible assumption | omega)] at hX | rw [if_neg (by first | with_reducible assumption | omega)] at hX | rw [jx_of (by omega)] at hX)); first | exact hX | (exfalso; omega) | exact hX))⟩), by rw [ht]; exact hP, hD, by rw [ht]; omega, by rw [ht]; omega⟩, hS.F ht⟩) hS.2.2 dX9_areAwaitedOver_31
     exact L8 _  (some j_2)    _ _ _ (Nat.lt_succ_self _) (fun _ h => by cases h; exact hj_2) (by show cit K (awB G) (fun _ => true) 201 (some j_2) () = k_aw K G i; have hX := (k_aw.eq_1 K G i).symm; (repeat (first | dsimp +instances only [c9n, c9f, c9T, c9G, c9K, c9F, b_come, b_leave, b_fill, awB, b_settle, b_wake, b_take, f_take, b_gather, f_gather, b_ask, a_ask, b_tell, c_close, d_close, k_add, k_rem, sco, k_clrF, k_mem, k_rebind, k_bnd, k_beg0, k_beg1, b_giveN, b_giveR, f_open, b_hand, k_op, b_turn, wlB, b_beat, f_anew, b_wipe, b_off, k_sadd, fits, frP, cntB, b_trace, b_child, k_lat, cond_true, cond_false, Option.elim_none, Option.elim_some, Option.getD_none, Option.getD_some] at hX | rw [eo_1] at hX | rw [if_pos (by first | with_reducible assumption | omega)] at hX | rw [if_neg (by first | with_reducible assumption | omega)] at hX | rw [jx_of (by omega)] at hX)); first | exact hX | (exfalso; omega) | exact hX) hP hD hS (lv_sub hl [0, 1] rfl)

set_option maxHeartbeats 8000000 in
set_option maxRecDepth 100000 in
theorem c_X9_settleAwaited (l : Launch) (dC : Nat → ClassId) (dI : Nat → Nat → Nat) (kc : Nat → ClassId) (ws : va_W) (ad : Nat → Nat) (ga : Nat → Nat) (gc : Nat → Nat) (M : Nat) (n : Nat → Int32) (f : Nat → Nat → Int32) (T : Nat → Option Nat) (G : Nat → Nat → Int32) (K : Nat → Nat → Option Nat) (F : Nat → Nat → Nat → Int32) (R : Nat) (i : Nat) (sz hz : Nat) (hQ : Pic9 kc ws ad ga gc M n f T G K F) (hI : I9 M n f T gc G K F R) (hi : i < M) : Met l yX9_settleAwaited (.code yX9_settleAwaited cX9_settleAwaited 2 none :: gw) ({ frames := 0, cells := 0, slots := 0, locals := 0 }) (va_Pc [.ref (ad (50 + 16 * i))] (fun U => U.heap.size = sz ∧ hpS U.heap = hz ∧ va_P (dC, dI) vwCl ws U.heap ∧ va_K (dC, dI) vwCl (t9 kc) U ∧ va_D (fun _ => True) ws ∧ nx U)) (va_Qv (fun (u : (Nat → Nat) × (Nat → Nat) × (Nat → Nat) × Nat × (Nat → Int32) × (Nat → Nat → Int32) × (Nat → Option Nat) × (Nat → Nat → Int32) × (Nat → Nat → Option Nat) × (Nat → Nat → Nat → Int32)) => (C9.mk n f T u.2.2.2.2.2.2.2.1 K F) = k_settle i (C9.mk n f T G K F)) (fun u t => ∃ w : va_W, va_P (dC, dI) vwCl w t.heap ∧ va_D (va_A ws sz) w ∧ Pic9 kc w ad ga gc M n f T u.2.2.2.2.2.2.2.1 K F ∧ I9 M n f T gc u.2.2.2.2.2.2.2.1 K F R ∧ hpS t.heap + (260 * M + 2 * S9 M gc) ≤ hz + (260 * M + 2 * S9 M gc) ∧ 16 * t.heap.size + (256 * M + S9 M gc) ≤ 16 * sz + (256 * M + S9 M gc)) (va_A ws sz)) 0 0 (va_A ws sz) := by
  refine Met.ofW (cc := cX9_settleAwaited) (maxL := 2) (ret := none) (by decide) rfl ?_
  intro p e s m args below meth c s₁ B hml hv
  obtain ⟨rfl, hsz, rfl, hP, hK, hD0, hN⟩ := hv
  have hx := B.exec
  have hb := B.bytes
  have hr := B.returns
  have hts := atoms_spec (ws := .code yX9_settleAwaited cX9_settleAwaited 2 none :: gw) B.pre
  have hg : ∀ w ∈ gw, w.before _ s = true := fun w h => hts w (List.mem_cons_of_mem _ h)
  have hown : s.vm.findClass RX9 = some m.cls := findClass_of_methodNamed B.named
  have hlocks := B.notSynchronized
  subst hsz
  have hD := hD0.self (sz := s.heap.size)
  generalize hAe : va_A ws s.heap.size = A at hD ⊢
  have hA : ∀ q : Nat, s.heap.size ≤ q → A q := fun q h => by rw [← hAe]; exact Or.inr h
  clear hAe
  have hS : va_S A s.heap s.heap [] := va_S.rf
  have hl := lv_entry ([.ref (ad (50 + 16 * i))]) (n := 2) (Nat.le_of_ble_eq_true rfl)
  rw [lg_entry_eq]
  generalize (lg_sl ([.ref (ad (50 + 16 * i))]) ++ List.replicate (2 - (lg_sl ([.ref (ad (50 + 16 * i))])).length) Slot.unset).toArray = ls at hl ⊢
  have hl : lv_has ls 2 [(0, .ref (ad (50 + 16 * i)))] := hl
  obtain ⟨h_i1, h_i2, h_i3, h_i4, h_i5, h_i6, h_i7, h_i8, h_i9, h_i10, h_i11⟩ := id hI
  have q1_ := h_i1
  unfold i1 at q1_
  exact by
   refine lv_aload_n hx hb dX9_settleAwaited_0 rfl (lv_at hl 0 rfl) ?_
   refine va_get (D := (dC, dI)) (ci := 7) (v := .ref (ad (50 + 16 * i + 1))) (C := RX7) (T := TX7) (N := 15) hx hb hg gb_7 hown hK hP (50 + 16 * i) (hQ.b0 hi) rfl 10 (by decide) (hg _ gm_fieldLink_RX9_151_ErrandGuild_Run_kin_LErrandGuild_Kin_) (fun _ h9 => h9) rfl dX9_settleAwaited_1 ?_
   refine va_get (D := (dC, dI)) (ci := 4) (v := va_rf (rA9 ad (K i 2))) (C := RX4) (T := TX4) (N := 9) hx hb hg gb_4 hown hK hP (50 + 16 * i + 1) (hQ.b1 hi) rfl 5 (by decide) (hg _ gm_fieldLink_RX9_225_ErrandGuild_Kin_firstChild_LErrandGuild_Run_) (fun _ h9 => h9) rfl dX9_settleAwaited_4 ?_
   rcases eo_1 : K i 2 with _ | j_2
   · refine W.eq (g2 := F0 m 7 ls [.null]) (by first | rfl | (rw [eo_1]; rfl)) ?_
     refine lv_astore_nN (lv' := [(1, .null), (0, .ref (ad (50 + 16 * i)))]) hx hb dX9_settleAwaited_7 rfl hl (by decide) rfl (fun ls hl => ?_)
     have L8 : ∀ (fuel : Nat)  (o_3 : Option Nat)  (ws_5 : va_W) (G_4 : Nat → Nat → Int32)  (H : Heap) (locs : List Loc) (ls : Array Slot), chM M o_3 < fuel → (∀ j : Nat, o_3 = some j → j < M) → (cit K b_settle (fun s => s) 201 o_3 (C9.mk n f T G_4 K F) = k_settle i (C9.mk n f T G K F)) → Pic9 kc ws_5 ad ga gc M n f T G_4 K F → I9 M n f T gc G_4 K F R → va_P (dC, dI) vwCl ws_5 H → va_D A ws_5 → va_S A s.heap H locs → lv_has ls 2 [(1, va_rf (rA9 ad o_3)), (0, .ref (ad (50 + 16 * i)))] → W p l e (headSpec (.code yX9_settleAwaited cX9_settleAwaited 2 none :: gw) ({ frames := 0, cells := 0, slots := 0, locals := 0 })).room s m ([.ref (ad (50 + 16 * i))] : List Value).toArray below meth c H locs 0 0 (MQ below (va_Qv (fun (u : (Nat → Nat) × (Nat → Nat) × (Nat → Nat) × Nat × (Nat → Int32) × (Nat → Nat → Int32) × (Nat → Option Nat) × (Nat → Nat → Int32) × (Nat → Nat → Option Nat) × (Nat → Nat → Nat → Int32)) => (C9.mk n f T u.2.2.2.2.2.2.2.1 K F) = k_settle i (C9.mk n f T G K F)) (fun u t => ∃ w : va_W, va_P (dC, dI) vwCl w t.heap ∧ va_D A w ∧ Pic9 kc w ad ga gc M n f T u.2.2.2.2.2.2.2.1 K F ∧ I9 M n f T gc u.2.2.2.2.2.2.2.1 K F R ∧ hpS t.heap + (260 * M + 2 * S9 M gc) ≤ (hpS s.heap) + (260 * M + 2 * S9 M gc) ∧ 16 * t.heap.size + (256 * M + S9 M gc) ≤ 16 * s.heap.size + (256 * M + S9 M gc)) A) ([.ref (ad (50 + 16 * i))] : List Value).toArray s 0 0 A) (F0 m 8 ls []) := by
       intro fuel
       induction fuel with
       | zero => intro o_3 ws_5 G_4 H locs ls hm; exact absurd hm (Nat.not_lt_zero _)
       | succ fuel_11 ih_10 =>
         intro o_3 ws_5 G_4 H locs ls hm_6 v_7 v_8 hQ hI_9 hP hD hS hl
         obtain ⟨i1_12, i2_13, i3_14, i4_15, i5_16, i6_17, i7_18, i8_19, i9_20, i10_21, i11_22⟩ := id hI_9
         have q1_ := i1_12
         unfold i1 at q1_
         rcases o_3 with _ | j_23
         · have hl : lv_has ls 2 [(1, .null), (0, .ref (ad (50 + 16 * i)))] := hl
           exact by
            refine lv_aload_nN hx hb dX9_settleAwaited_8 rfl (lv_at hl 0 rfl) ?_
            refine lv_ifnullN (tgt := 42) hx hb dX9_settleAwaited_9 (by decide) ?_
            refine W_msr2 (fun hm1 hm2 hm3 => ?_)
            exact W.vret hx hb hr (fun t ht hW => ⟨⟨(ad, ga, gc, M, n, f, T, G_4, K, F), rfl, (by show (C9.mk n f T G_4 K F) = k_settle i (C9.mk n f T G K F); have hX := v_8; (first | rw [cit_none] at hX | rw [cit_go i3_14 i4_15 (by omega) (by first | with_reducible assumption | omega)] at hX); (repeat (first | dsimp +instances only [c9n, c9f, c9T, c9G, c9K, c9F, b_come, b_leave, b_fill, awB, b_settle, b_wake, b_take, f_take, b_gather, f_gather, b_ask, a_ask, b_tell, c_close, d_close, k_add, k_rem, sco, k_clrF, k_mem, k_rebind, k_bnd, k_beg0, k_beg1, b_giveN, b_giveR, f_open, b_hand, k_op, b_turn, wlB, b_beat, f_anew, b_wipe, b_off, k_sadd, fits, frP, cntB, b_trace, b_child, k_lat, cond_true, cond_false, Option.elim_none, Option.elim_some, Option.getD_none, Option.getD_some] at hX | rw [eo_1] at hX | rw [if_pos (by first | with_reducible assumption | omega)] at hX | rw [if_neg (by first | with_reducible assumption | omega)] at hX | rw [jx_of (by omega)] at hX)); first | exact hX | (exfalso; omega) | exact hX), ws_5, by rw [ht]; exact hP, hD, hQ, ⟨i1_12, i2_13, i3_14, i4_15, i5_16, i6_17, i7_18, i8_19, i9_20, i10_21, i11_22⟩, by rw [ht]; show hpS H + (260 * M + 2 * S9 M gc) ≤ hpS s.heap + (260 * M + 2 * S9 M gc); omega, by rw [ht]; show 16 * H.size + (256 * M + S9 M gc) ≤ 16 * s.heap.size + (256 * M + S9 M gc); omega⟩, hS.F ht⟩) hS.2.2 dX9_settleAwaited_42
         · have hl : lv_has ls 2 [(1, .ref (ad (50 + 16 * j_23))), (0, .ref (ad (50 + 16 * i)))] := hl
           have hj_23 : j_23 < M := v_7 _ rfl
           refine lv_aload_n hx hb dX9_settleAwaited_8 rfl (lv_at hl 0 rfl) ?_
           refine lv_ifnull hx hb dX9_settleAwaited_9 ?_
           refine lv_aload_n hx hb dX9_settleAwaited_12 rfl (lv_at hl 0 rfl) ?_
           refine va_get (D := (dC, dI)) (ci := 7) (v := .ref (ad (50 + 16 * j_23 + 1))) (C := RX7) (T := TX7) (N := 15) hx hb hg gb_7 hown hK hP (50 + 16 * j_23) (hQ.b0 hj_23) rfl 10 (by decide) (hg _ gm_fieldLink_RX9_151_ErrandGuild_Run_kin_LErrandGuild_Kin_) (fun _ h9 => h9) rfl dX9_settleAwaited_13 ?_
           refine va_get (D := (dC, dI)) (ci := 4) (v := .int (G_4 j_23 12)) (C := RX4) (T := TX4) (N := 9) hx hb hg gb_4 hown hK hP (50 + 16 * j_23 + 1) (hQ.b1 hj_23) rfl 4 (by decide) (hg _ gm_fieldLink_RX9_379_ErrandGuild_Kin_claim_I_) (fun _ h9 => h9) rfl dX9_settleAwaited_16 ?_
           refine lv_iconst (v := 1) hx hb dX9_settleAwaited_19 (by decide) ?_
           refine lv_icmp_ne (tgt := 31) hx hb dX9_settleAwaited_20 (by decide) (fun c_24 => ?_) (fun c_24 => ?_)
           · simp only [i_lt, i_le, i_eq, ti_1] at c_24
             refine lv_aload_n hx hb dX9_settleAwaited_31 rfl (lv_at hl 0 rfl) ?_
             refine va_get (D := (dC, dI)) (ci := 7) (v := .ref (ad (50 + 16 * j_23 + 1))) (C := RX7) (T := TX7) (N := 15) hx hb hg gb_7 hown hK hP (50 + 16 * j_23) (hQ.b0 hj_23) rfl 10 (by decide) (hg _ gm_fieldLink_RX9_151_ErrandGuild_Run_kin_LErrandGuild_Kin_) (fun _ h9 => h9) rfl dX9_settleAwaited_32 ?_
             exact by
              refine va_get (D := (dC, dI)) (ci := 4) (v := va_rf (rA9 ad (K j_23 4))) (C := RX4) (T := TX4) (N := 9) hx hb hg gb_4 hown hK hP (50 + 16 * j_23 + 1) (hQ.b1 hj_23) rfl 7 (by decide) (hg _ gm_fieldLink_RX9_228_ErrandGuild_Kin_nextSibling_LErrandGuild_Run_) (fun _ h9 => h9) rfl dX9_settleAwaited_35 ?_
              rcases eo_25 : K j_23 4 with _ | j_26
              · refine W.eq (g2 := F0 m 38 ls [.null]) (by first | rfl | (rw [eo_25]; rfl)) ?_
                refine lv_astore_nN (lv' := [(1, .null), (0, .ref (ad (50 + 16 * i)))]) hx hb dX9_settleAwaited_38 rfl hl (by decide) rfl (fun ls hl => ?_)
                refine lv_goto (tgt := 8) hx hb dX9_settleAwaited_39 (by decide) ?_
                exact ih_10  none  ws_5 G_4  H locs ls (by simp only [chM] at *; omega) (fun _ h => by cases h) (by show cit K b_settle (fun s => s) 201 none (C9.mk n f T G_4 K F) = k_settle i (C9.mk n f T G K F); have hX := v_8; (first | rw [cit_none] at hX | rw [cit_go i3_14 i4_15 (by omega) (by first | with_reducible assumption | omega)] at hX); (repeat (first | dsimp +instances only [c9n, c9f, c9T, c9G, c9K, c9F, b_come, b_leave, b_fill, awB, b_settle, b_wake, b_take, f_take, b_gather, f_gather, b_ask, a_ask, b_tell, c_close, d_close, k_add, k_rem, sco, k_clrF, k_mem, k_rebind, k_bnd, k_beg0, k_beg1, b_giveN, b_giveR, f_open, b_hand, k_op, b_turn, wlB, b_beat, f_anew, b_wipe, b_off, k_sadd, fits, frP, cntB, b_trace, b_child, k_lat, cond_true, cond_false, Option.elim_none, Option.elim_some, Option.getD_none, Option.getD_some] at hX | rw [eo_1] at hX | rw [eo_25] at hX | rw [if_pos (by first | with_reducible assumption | omega)] at hX | rw [if_neg (by first | with_reducible assumption | omega)] at hX | rw [jx_of (by omega)] at hX)); first | exact hX | (exfalso; omega) | exact hX) hQ ⟨i1_12, i2_13, i3_14, i4_15, i5_16, i6_17, i7_18, i8_19, i9_20, i10_21, i11_22⟩ hP hD hS (lv_sub hl [0, 1] rfl)
              · refine W.eq (g2 := F0 m 38 ls [.ref (ad (50 + 16 * j_26))]) (by first | rfl | (rw [eo_25]; rfl)) ?_
                have hj_26 : j_26 < M := i3_14 _ _ _ hj_23 eo_25
                refine lv_astore_n (lv' := [(1, .ref (ad (50 + 16 * j_26))), (0, .ref (ad (50 + 16 * i)))]) hx hb dX9_settleAwaited_38 rfl hl (by decide) rfl (fun ls hl => ?_)
                refine lv_goto (tgt := 8) hx hb dX9_settleAwaited_39 (by decide) ?_
                exact ih_10  (some j_26)  ws_5 G_4  H locs ls (by have := i4_15 _ _ hj_23 eo_25; simp only [chM] at *; omega) (fun _ h => by cases h; exact hj_26) (by show cit K b_settle (fun s => s) 201 (some j_26) (C9.mk n f T G_4 K F) = k_settle i (C9.mk n f T G K F); have hX := v_8; (first | rw [cit_none] at hX | rw [cit_go i3_14 i4_15 (by omega) (by first | with_reducible assumption | omega)] at hX); (repeat (first | dsimp +instances only [c9n, c9f, c9T, c9G, c9K, c9F, b_come, b_leave, b_fill, awB, b_settle, b_wake, b_take, f_take, b_gather, f_gather, b_ask, a_ask, b_tell, c_close, d_close, k_add, k_rem, sco, k_clrF, k_mem, k_rebind, k_bnd, k_beg0, k_beg1, b_giveN, b_giveR, f_open, b_hand, k_op, b_turn, wlB, b_beat, f_anew, b_wipe, b_off, k_sadd, fits, frP, cntB, b_trace, b_child, k_lat, cond_true, cond_false, Option.elim_none, Option.elim_some, Option.getD_none, Option.getD_some] at hX | rw [eo_1] at hX | rw [eo_25] at hX | rw [if_pos (by first | with_reducible assumption | omega)] at hX | rw [if_neg (by first | with_reducible assumption | omega)] at hX | rw [jx_of (by omega)] at hX)); first | exact hX | (exfalso; omega) | exact hX) hQ ⟨i1_12, i2_13, i3_14, i4_15, i5_16, i6_17, i7_18, i8_19, i9_20, i10_21, i11_22⟩ hP hD hS (lv_sub hl [0, 1] rfl)
           · simp only [i_lt, i_le, i_eq, ti_1] at c_24
             refine lv_aload_n hx hb dX9_settleAwaited_23 rfl (lv_at hl 0 rfl) ?_
             refine va_get (D := (dC, dI)) (ci := 7) (v := .ref (ad (50 + 16 * j_23 + 1))) (C := RX7) (T := TX7) (N := 15) hx hb hg gb_7 hown hK hP (50 + 16 * j_23) (hQ.b0 hj_23) rfl 10 (by decide) (hg _ gm_fieldLink_RX9_151_ErrandGuild_Run_kin_LErrandGuild_Kin_) (fun _ h9 => h9) rfl dX9_settleAwaited_24 ?_
             refine lv_iconst (v := 2) hx hb dX9_settleAwaited_27 (by decide) ?_
             refine va_put (D := (dC, dI)) (ci := 4) (v := .int (2)) (ty := .int) (C := RX4) (T := TX4) (N := 9) hx hb hg gb_4 tyX4 tyX4_ok nmX4 hown hK hP hD hS (50 + 16 * j_23 + 1) (hQ.b1 hj_23) rfl 4 (by decide) (hg _ gm_fieldLink_RX9_379_ErrandGuild_Kin_claim_I_) (fun _ h9 => h9) rfl (by decide +kernel) rfl rfl (Nat.le_of_ble_eq_true rfl) dX9_settleAwaited_28 (fun H locs hP hD hS => ?_)
             obtain ⟨ws_28, G_27, eG_27, hP, hD, hQ⟩ : ∃ (ws_28 : va_W) (G_27 : Nat → Nat → Int32), G_27 = u2 G_4 j_23 12 2 ∧ va_P (dC, dI) vwCl ws_28 H ∧ va_D A ws_28 ∧ Pic9 kc ws_28 ad ga gc M n f T G_27 K F := ⟨_, _, rfl, hP, hD, hQ.kinI hj_23 12 4 (by decide) 2⟩
             have i10_29 : i10 M G_27 K F := by rw [eG_27]; exact (i10.pG i10_21 hj_23 _ (by decide))
             have i11_30 : i11 M n gc f G_27 F := by rw [eG_27]; exact (i11.pG i11_22 j_23 _ (by decide))
             have i6_31 : i6 n T G_27 := by rw [eG_27]; exact (i6.pG i6_17 j_23 _ (by decide))
             have i7_32 : i7 n G_27 := by rw [eG_27]; exact (i7.pG i7_18 j_23 _ (by decide))
             have i8_33 : i8 M n gc G_27 := by rw [eG_27]; exact (i8.pG i8_19 j_23 _ (by decide))
             have i9_34 : i9 M gc G_27 R := by rw [eG_27]; exact (i9.pG i9_20 j_23 _ (by decide))
             have eg_35 : G_27 j_23 12 = 2 := by rw [eG_27, u2_eq]
             exact by
              refine lv_aload_n hx hb dX9_settleAwaited_31 rfl (lv_at hl 0 rfl) ?_
              refine va_get (D := (dC, dI)) (ci := 7) (v := .ref (ad (50 + 16 * j_23 + 1))) (C := RX7) (T := TX7) (N := 15) hx hb hg gb_7 hown hK hP (50 + 16 * j_23) (hQ.b0 hj_23) rfl 10 (by decide) (hg _ gm_fieldLink_RX9_151_ErrandGuild_Run_kin_LErrandGuild_Kin_) (fun _ h9 => h9) rfl dX9_settleAwaited_32 ?_
              refine va_get (D := (dC, dI)) (ci := 4) (v := va_rf (rA9 ad (K j_23 4))) (C := RX4) (T := TX4) (N := 9) hx hb hg gb_4 hown hK hP (50 + 16 * j_23 + 1) (hQ.b1 hj_23) rfl 7 (by decide) (hg _ gm_fieldLink_RX9_228_ErrandGuild_Kin_nextSibling_LErrandGuild_Run_) (fun _ h9 => h9) rfl dX9_settleAwaited_35 ?_
              rcases eo_36 : K j_23 4 with _ | j_37
              · refine W.eq (g2 := F0 m 38 ls [.null]) (by first | rfl | (rw [eo_36]; rfl)) ?_
                refine lv_astore_nN (lv' := [(1, .null), (0, .ref (ad (50 + 16 * i)))]) hx hb dX9_settleAwaited_38 rfl hl (by decide) rfl (fun ls hl => ?_)
                refine lv_goto (tgt := 8) hx hb dX9_settleAwaited_39 (by decide) ?_
                exact ih_10  none  ws_28 G_27  H locs ls (by simp only [chM] at *; omega) (fun _ h => by cases h) (by show cit K b_settle (fun s => s) 201 none (C9.mk n f T G_27 K F) = k_settle i (C9.mk n f T G K F); subst eG_27; have hX := v_8; (first | rw [cit_none] at hX | rw [cit_go i3_14 i4_15 (by omega) (by first | with_reducible assumption | omega)] at hX); (repeat (first | dsimp +instances only [c9n, c9f, c9T, c9G, c9K, c9F, b_come, b_leave, b_fill, awB, b_settle, b_wake, b_take, f_take, b_gather, f_gather, b_ask, a_ask, b_tell, c_close, d_close, k_add, k_rem, sco, k_clrF, k_mem, k_rebind, k_bnd, k_beg0, k_beg1, b_giveN, b_giveR, f_open, b_hand, k_op, b_turn, wlB, b_beat, f_anew, b_wipe, b_off, k_sadd, fits, frP, cntB, b_trace, b_child, k_lat, cond_true, cond_false, Option.elim_none, Option.elim_some, Option.getD_none, Option.getD_some] at hX | rw [eo_1] at hX | rw [eo_36] at hX | rw [if_pos (by first | with_reducible assumption | omega)] at hX | rw [if_neg (by first | with_reducible assumption | omega)] at hX | rw [jx_of (by omega)] at hX)); first | exact hX | (exfalso; omega) | exact hX) hQ ⟨i1_12, i2_13, i3_14, i4_15, i5_16, i6_31, i7_32, i8_33, i9_34, i10_29, i11_30⟩ hP hD hS (lv_sub hl [0, 1] rfl)
              · refine W.eq (g2 := F0 m 38 ls [.ref (ad (50 + 16 * j_37))]) (by first | rfl | (rw [eo_36]; rfl)) ?_
                have hj_37 : j_37 < M := i3_14 _ _ _ hj_23 eo_36
                refine lv_astore_n (lv' := [(1, .ref (ad (50 + 16 * j_37))), (0, .ref (ad (50 + 16 * i)))]) hx hb dX9_settleAwaited_38 rfl hl (by decide) rfl (fun ls hl => ?_)
                refine lv_goto (tgt := 8) hx hb dX9_settleAwaited_39 (by decide) ?_
                exact ih_10  (some j_37)  ws_28 G_27  H locs ls (by have := i4_15 _ _ hj_23 eo_36; simp only [chM] at *; omega) (fun _ h => by cases h; exact hj_37) (by show cit K b_settle (fun s => s) 201 (some j_37) (C9.mk n f T G_27 K F) = k_settle i (C9.mk n f T G K F); subst eG_27; have hX := v_8; (first | rw [cit_none] at hX | rw [cit_go i3_14 i4_15 (by omega) (by first | with_reducible assumption | omega)] at hX); (repeat (first | dsimp +instances only [c9n, c9f, c9T, c9G, c9K, c9F, b_come, b_leave, b_fill, awB, b_settle, b_wake, b_take, f_take, b_gather, f_gather, b_ask, a_ask, b_tell, c_close, d_close, k_add, k_rem, sco, k_clrF, k_mem, k_rebind, k_bnd, k_beg0, k_beg1, b_giveN, b_giveR, f_open, b_hand, k_op, b_turn, wlB, b_beat, f_anew, b_wipe, b_off, k_sadd, fits, frP, cntB, b_trace, b_child, k_lat, cond_true, cond_false, Option.elim_none, Option.elim_some, Option.getD_none, Option.getD_some] at hX | rw [eo_1] at hX | rw [eo_36] at hX | rw [if_pos (by first | with_reducible assumption | omega)] at hX | rw [if_neg (by first | with_reducible assumption | omega)] at hX | rw [jx_of (by omega)] at hX)); first | exact hX | (exfalso; omega) | exact hX) hQ ⟨i1_12, i2_13, i3_14, i4_15, i5_16, i6_31, i7_32, i8_33, i9_34, i10_29, i11_30⟩ hP hD hS (lv_sub hl [0, 1] rfl)
     exact L8 _  none  ws G  _ _ _ (Nat.lt_succ_self _) (fun _ h => by cases h) (by show cit K b_settle (fun s => s) 201 none (C9.mk n f T G K F) = k_settle i (C9.mk n f T G K F); have hX := (k_settle.eq_1 i (C9.mk n f T G K F)).symm; (repeat (first | dsimp +instances only [c9n, c9f, c9T, c9G, c9K, c9F, b_come, b_leave, b_fill, awB, b_settle, b_wake, b_take, f_take, b_gather, f_gather, b_ask, a_ask, b_tell, c_close, d_close, k_add, k_rem, sco, k_clrF, k_mem, k_rebind, k_bnd, k_beg0, k_beg1, b_giveN, b_giveR, f_open, b_hand, k_op, b_turn, wlB, b_beat, f_anew, b_wipe, b_off, k_sadd, fits, frP, cntB, b_trace, b_child, k_lat, cond_true, cond_false, Option.elim_none, Option.elim_some, Option.getD_none, Option.getD_some] at hX | rw [eo_1] at hX | rw [if_pos (by first | with_reducible assumption | omega)] at hX | rw [if_neg (by first | with_reducible assumption | omega)] at hX | rw [jx_of (by omega)] at hX)); first | exact hX | (exfalso; omega) | exact hX) hQ ⟨h_i1, h_i2, h_i3, h_i4, h_i5, h_i6, h_i7, h_i8, h_i9, h_i10, h_i11⟩ hP hD hS (lv_sub hl [0, 1] rfl)
   · refine W.eq (g2 := F0 m 7 ls [.ref (ad (50 + 16 * j_2))]) (by first | rfl | (rw [eo_1]; rfl)) ?_
     have hj_2 : j_2 < M := h_i3 _ _ _ hi eo_1
     refine lv_astore_n (lv' := [(1, .ref (ad (50 + 16 * j_2))), (0, .ref (ad (50 + 16 * i)))]) hx hb dX9_settleAwaited_7 rfl hl (by decide) rfl (fun ls hl => ?_)
     have L8 : ∀ (fuel : Nat)  (o_38 : Option Nat)  (ws_40 : va_W) (G_39 : Nat → Nat → Int32)  (H : Heap) (locs : List Loc) (ls : Array Slot), chM M o_38 < fuel → (∀ j : Nat, o_38 = some j → j < M) → (cit K b_settle (fun s => s) 201 o_38 (C9.mk n f T G_39 K F) = k_settle i (C9.mk n f T G K F)) → Pic9 kc ws_40 ad ga gc M n f T G_39 K F → I9 M n f T gc G_39 K F R → va_P (dC, dI) vwCl ws_40 H → va_D A ws_40 → va_S A s.heap H locs → lv_has ls 2 [(1, va_rf (rA9 ad o_38)), (0, .ref (ad (50 + 16 * i)))] → W p l e (headSpec (.code yX9_settleAwaited cX9_settleAwaited 2 none :: gw) ({ frames := 0, cells := 0, slots := 0, locals := 0 })).room s m ([.ref (ad (50 + 16 * i))] : List Value).toArray below meth c H locs 0 0 (MQ below (va_Qv (fun (u : (Nat → Nat) × (Nat → Nat) × (Nat → Nat) × Nat × (Nat → Int32) × (Nat → Nat → Int32) × (Nat → Option Nat) × (Nat → Nat → Int32) × (Nat → Nat → Option Nat) × (Nat → Nat → Nat → Int32)) => (C9.mk n f T u.2.2.2.2.2.2.2.1 K F) = k_settle i (C9.mk n f T G K F)) (fun u t => ∃ w : va_W, va_P (dC, dI) vwCl w t.heap ∧ va_D A w ∧ Pic9 kc w ad ga gc M n f T u.2.2.2.2.2.2.2.1 K F ∧ I9 M n f T gc u.2.2.2.2.2.2.2.1 K F R ∧ hpS t.heap + (260 * M + 2 * S9 M gc) ≤ (hpS s.heap) + (260 * M + 2 * S9 M gc) ∧ 16 * t.heap.size + (256 * M + S9 M gc) ≤ 16 * s.heap.size + (256 * M + S9 M gc)) A) ([.ref (ad (50 + 16 * i))] : List Value).toArray s 0 0 A) (F0 m 8 ls []) := by
       intro fuel
       induction fuel with
       | zero => intro o_38 ws_40 G_39 H locs ls hm; exact absurd hm (Nat.not_lt_zero _)
       | succ fuel_46 ih_45 =>
         intro o_38 ws_40 G_39 H locs ls hm_41 v_42 v_43 hQ hI_44 hP hD hS hl
         obtain ⟨i1_47, i2_48, i3_49, i4_50, i5_51, i6_52, i7_53, i8_54, i9_55, i10_56, i11_57⟩ := id hI_44
         have q1_ := i1_47
         unfold i1 at q1_
         rcases o_38 with _ | j_58
         · have hl : lv_has ls 2 [(1, .null), (0, .ref (ad (50 + 16 * i)))] := hl
           exact by
            refine lv_aload_nN hx hb dX9_settleAwaited_8 rfl (lv_at hl 0 rfl) ?_
            refine lv_ifnullN (tgt := 42) hx hb dX9_settleAwaited_9 (by decide) ?_
            refine W_msr2 (fun hm1 hm2 hm3 => ?_)
            exact W.vret hx hb hr (fun t ht hW => ⟨⟨(ad, ga, gc, M, n, f, T, G_39, K, F), rfl, (by show (C9.mk n f T G_39 K F) = k_settle i (C9.mk n f T G K F); have hX := v_43; (first | rw [cit_none] at hX | rw [cit_go i3_49 i4_50 (by omega) (by first | with_reducible assumption | omega)] at hX); (repeat (first | dsimp +instances only [c9n, c9f, c9T, c9G, c9K, c9F, b_come, b_leave, b_fill, awB, b_settle, b_wake, b_take, f_take, b_gather, f_gather, b_ask, a_ask, b_tell, c_close, d_close, k_add, k_rem, sco, k_clrF, k_mem, k_rebind, k_bnd, k_beg0, k_beg1, b_giveN, b_giveR, f_open, b_hand, k_op, b_turn, wlB, b_beat, f_anew, b_wipe, b_off, k_sadd, fits, frP, cntB, b_trace, b_child, k_lat, cond_true, cond_false, Option.elim_none, Option.elim_some, Option.getD_none, Option.getD_some] at hX | rw [eo_1] at hX | rw [if_pos (by first | with_reducible assumption | omega)] at hX | rw [if_neg (by first | with_reducible assumption | omega)] at hX | rw [jx_of (by omega)] at hX)); first | exact hX | (exfalso; omega) | exact hX), ws_40, by rw [ht]; exact hP, hD, hQ, ⟨i1_47, i2_48, i3_49, i4_50, i5_51, i6_52, i7_53, i8_54, i9_55, i10_56, i11_57⟩, by rw [ht]; show hpS H + (260 * M + 2 * S9 M gc) ≤ hpS s.heap + (260 * M + 2 * S9 M gc); omega, by rw [ht]; show 16 * H.size + (256 * M + S9 M gc) ≤ 16 * s.heap.size + (256 * M + S9 M gc); omega⟩, hS.F ht⟩) hS.2.2 dX9_settleAwaited_42
         · have hl : lv_has ls 2 [(1, .ref (ad (50 + 16 * j_58))), (0, .ref (ad (50 + 16 * i)))] := hl
           have hj_58 : j_58 < M := v_42 _ rfl
           refine lv_aload_n hx hb dX9_settleAwaited_8 rfl (lv_at hl 0 rfl) ?_
           refine lv_ifnull hx hb dX9_settleAwaited_9 ?_
           refine lv_aload_n hx hb dX9_settleAwaited_12 rfl (lv_at hl 0 rfl) ?_
           refine va_get (D := (dC, dI)) (ci := 7) (v := .ref (ad (50 + 16 * j_58 + 1))) (C := RX7) (T := TX7) (N := 15) hx hb hg gb_7 hown hK hP (50 + 16 * j_58) (hQ.b0 hj_58) rfl 10 (by decide) (hg _ gm_fieldLink_RX9_151_ErrandGuild_Run_kin_LErrandGuild_Kin_) (fun _ h9 => h9) rfl dX9_settleAwaited_13 ?_
           refine va_get (D := (dC, dI)) (ci := 4) (v := .int (G_39 j_58 12)) (C := RX4) (T := TX4) (N := 9) hx hb hg gb_4 hown hK hP (50 + 16 * j_58 + 1) (hQ.b1 hj_58) rfl 4 (by decide) (hg _ gm_fieldLink_RX9_379_ErrandGuild_Kin_claim_I_) (fun _ h9 => h9) rfl dX9_settleAwaited_16 ?_
           refine lv_iconst (v := 1) hx hb dX9_settleAwaited_19 (by decide) ?_
           refine lv_icmp_ne (tgt := 31) hx hb dX9_settleAwaited_20 (by decide) (fun c_59 => ?_) (fun c_59 => ?_)
           · simp only [i_lt, i_le, i_eq, ti_1] at c_59
             refine lv_aload_n hx hb dX9_settleAwaited_31 rfl (lv_at hl 0 rfl) ?_
             refine va_get (D := (dC, dI)) (ci := 7) (v := .ref (ad (50 + 16 * j_58 + 1))) (C := RX7) (T := TX7) (N := 15) hx hb hg gb_7 hown hK hP (50 + 16 * j_58) (hQ.b0 hj_58) rfl 10 (by decide) (hg _ gm_fieldLink_RX9_151_ErrandGuild_Run_kin_LErrandGuild_Kin_) (fun _ h9 => h9) rfl dX9_settleAwaited_32 ?_
             exact by
              refine va_get (D := (dC, dI)) (ci := 4) (v := va_rf (rA9 ad (K j_58 4))) (C := RX4) (T := TX4) (N := 9) hx hb hg gb_4 hown hK hP (50 + 16 * j_58 + 1) (hQ.b1 hj_58) rfl 7 (by decide) (hg _ gm_fieldLink_RX9_228_ErrandGuild_Kin_nextSibling_LErrandGuild_Run_) (fun _ h9 => h9) rfl dX9_settleAwaited_35 ?_
              rcases eo_60 : K j_58 4 with _ | j_61
              · refine W.eq (g2 := F0 m 38 ls [.null]) (by first | rfl | (rw [eo_60]; rfl)) ?_
                refine lv_astore_nN (lv' := [(1, .null), (0, .ref (ad (50 + 16 * i)))]) hx hb dX9_settleAwaited_38 rfl hl (by decide) rfl (fun ls hl => ?_)
                refine lv_goto (tgt := 8) hx hb dX9_settleAwaited_39 (by decide) ?_
                exact ih_45  none  ws_40 G_39  H locs ls (by simp only [chM] at *; omega) (fun _ h => by cases h) (by show cit K b_settle (fun s => s) 201 none (C9.mk n f T G_39 K F) = k_settle i (C9.mk n f T G K F); have hX := v_43; (first | rw [cit_none] at hX | rw [cit_go i3_49 i4_50 (by omega) (by first | with_reducible assumption | omega)] at hX); (repeat (first | dsimp +instances only [c9n, c9f, c9T, c9G, c9K, c9F, b_come, b_leave, b_fill, awB, b_settle, b_wake, b_take, f_take, b_gather, f_gather, b_ask, a_ask, b_tell, c_close, d_close, k_add, k_rem, sco, k_clrF, k_mem, k_rebind, k_bnd, k_beg0, k_beg1, b_giveN, b_giveR, f_open, b_hand, k_op, b_turn, wlB, b_beat, f_anew, b_wipe, b_off, k_sadd, fits, frP, cntB, b_trace, b_child, k_lat, cond_true, cond_false, Option.elim_none, Option.elim_some, Option.getD_none, Option.getD_some] at hX | rw [eo_1] at hX | rw [eo_60] at hX | rw [if_pos (by first | with_reducible assumption | omega)] at hX | rw [if_neg (by first | with_reducible assumption | omega)] at hX | rw [jx_of (by omega)] at hX)); first | exact hX | (exfalso; omega) | exact hX) hQ ⟨i1_47, i2_48, i3_49, i4_50, i5_51, i6_52, i7_53, i8_54, i9_55, i10_56, i11_57⟩ hP hD hS (lv_sub hl [0, 1] rfl)
              · refine W.eq (g2 := F0 m 38 ls [.ref (ad (50 + 16 * j_61))]) (by first | rfl | (rw [eo_60]; rfl)) ?_
                have hj_61 : j_61 < M := i3_49 _ _ _ hj_58 eo_60
                refine lv_astore_n (lv' := [(1, .ref (ad (50 + 16 * j_61))), (0, .ref (ad (50 + 16 * i)))]) hx hb dX9_settleAwaited_38 rfl hl (by decide) rfl (fun ls hl => ?_)
                refine lv_goto (tgt := 8) hx hb dX9_settleAwaited_39 (by decide) ?_
                exact ih_45  (some j_61)  ws_40 G_39  H locs ls (by have := i4_50 _ _ hj_58 eo_60; simp only [chM] at *; omega) (fun _ h => by cases h; exact hj_61) (by show cit K b_settle (fun s => s) 201 (some j_61) (C9.mk n f T G_39 K F) = k_settle i (C9.mk n f T G K F); have hX := v_43; (first | rw [cit_none] at hX | rw [cit_go i3_49 i4_50 (by omega) (by first | with_reducible assumption | omega)] at hX); (repeat (first | dsimp +instances only [c9n, c9f, c9T, c9G, c9K, c9F, b_come, b_leave, b_fill, awB, b_settle, b_wake, b_take, f_take, b_gather, f_gather, b_ask, a_ask, b_tell, c_close, d_close, k_add, k_rem, sco, k_clrF, k_mem, k_rebind, k_bnd, k_beg0, k_beg1, b_giveN, b_giveR, f_open, b_hand, k_op, b_turn, wlB, b_beat, f_anew, b_wipe, b_off, k_sadd, fits, frP, cntB, b_trace, b_child, k_lat, cond_true, cond_false, Option.elim_none, Option.elim_some, Option.getD_none, Option.getD_some] at hX | rw [eo_1] at hX | rw [eo_60] at hX | rw [if_pos (by first | with_reducible assumption | omega)] at hX | rw [if_neg (by first | with_reducible assumption | omega)] at hX | rw [jx_of (by omega)] at hX)); first | exact hX | (exfalso; omega) | exact hX) hQ ⟨i1_47, i2_48, i3_49, i4_50, i5_51, i6_52, i7_53, i8_54, i9_55, i10_56, i11_57⟩ hP hD hS (lv_sub hl [0, 1] rfl)
           · simp only [i_lt, i_le, i_eq, ti_1] at c_59
             refine lv_aload_n hx hb dX9_settleAwaited_23 rfl (lv_at hl 0 rfl) ?_
             refine va_get (D := (dC, dI)) (ci := 7) (v := .ref (ad (50 + 16 * j_58 + 1))) (C := RX7) (T := TX7) (N := 15) hx hb hg gb_7 hown hK hP (50 + 16 * j_58) (hQ.b0 hj_58) rfl 10 (by decide) (hg _ gm_fieldLink_RX9_151_ErrandGuild_Run_kin_LErrandGuild_Kin_) (fun _ h9 => h9) rfl dX9_settleAwaited_24 ?_
             refine lv_iconst (v := 2) hx hb dX9_settleAwaited_27 (by decide) ?_
             refine va_put (D := (dC, dI)) (ci := 4) (v := .int (2)) (ty := .int) (C := RX4) (T := TX4) (N := 9) hx hb hg gb_4 tyX4 tyX4_ok nmX4 hown hK hP hD hS (50 + 16 * j_58 + 1) (hQ.b1 hj_58) rfl 4 (by decide) (hg _ gm_fieldLink_RX9_379_ErrandGuild_Kin_claim_I_) (fun _ h9 => h9) rfl (by decide +kernel) rfl rfl (Nat.le_of_ble_eq_true rfl) dX9_settleAwaited_28 (fun H locs hP hD hS => ?_)
             obtain ⟨ws_63, G_62, eG_62, hP, hD, hQ⟩ : ∃ (ws_63 : va_W) (G_62 : Nat → Nat → Int32), G_62 = u2 G_39 j_58 12 2 ∧ va_P (dC, dI) vwCl ws_63 H ∧ va_D A ws_63 ∧ Pic9 kc ws_63 ad ga gc M n f T G_62 K F := ⟨_, _, rfl, hP, hD, hQ.kinI hj_58 12 4 (by decide) 2⟩
             have i10_64 : i10 M G_62 K F := by rw [eG_62]; exact (i10.pG i10_56 hj_58 _ (by decide))
             have i11_65 : i11 M n gc f G_62 F := by rw [eG_62]; exact (i11.pG i11_57 j_58 _ (by decide))
             have i6_66 : i6 n T G_62 := by rw [eG_62]; exact (i6.pG i6_52 j_58 _ (by decide))
             have i7_67 : i7 n G_62 := by rw [eG_62]; exact (i7.pG i7_53 j_58 _ (by decide))
             have i8_68 : i8 M n gc G_62 := by rw [eG_62]; exact (i8.pG i8_54 j_58 _ (by decide))
             have i9_69 : i9 M gc G_62 R := by rw [eG_62]; exact (i9.pG i9_55 j_58 _ (by decide))
             have eg_70 : G_62 j_58 12 = 2 := by rw [eG_62, u2_eq]
             exact by
              refine lv_aload_n hx hb dX9_settleAwaited_31 rfl (lv_at hl 0 rfl) ?_
              refine va_get (D := (dC, dI)) (ci := 7) (v := .ref (ad (50 + 16 * j_58 + 1))) (C := RX7) (T := TX7) (N := 15) hx hb hg gb_7 hown hK hP (50 + 16 * j_58) (hQ.b0 hj_58) rfl 10 (by decide) (hg _ gm_fieldLink_RX9_151_ErrandGuild_Run_kin_LErrandGuild_Kin_) (fun _ h9 => h9) rfl dX9_settleAwaited_32 ?_
              refine va_get (D := (dC, dI)) (ci := 4) (v := va_rf (rA9 ad (K j_58 4))) (C := RX4) (T := TX4) (N := 9) hx hb hg gb_4 hown hK hP (50 + 16 * j_58 + 1) (hQ.b1 hj_58) rfl 7 (by decide) (hg _ gm_fieldLink_RX9_228_ErrandGuild_Kin_nextSibling_LErrandGuild_Run_) (fun _ h9 => h9) rfl dX9_settleAwaited_35 ?_
              rcases eo_71 : K j_58 4 with _ | j_72
              · refine W.eq (g2 := F0 m 38 ls [.null]) (by first | rfl | (rw [eo_71]; rfl)) ?_
                refine lv_astore_nN (lv' := [(1, .null), (0, .ref (ad (50 + 16 * i)))]) hx hb dX9_settleAwaited_38 rfl hl (by decide) rfl (fun ls hl => ?_)
                refine lv_goto (tgt := 8) hx hb dX9_settleAwaited_39 (by decide) ?_
                exact ih_45  none  ws_63 G_62  H locs ls (by simp only [chM] at *; omega) (fun _ h => by cases h) (by show cit K b_settle (fun s => s) 201 none (C9.mk n f T G_62 K F) = k_settle i (C9.mk n f T G K F); subst eG_62; have hX := v_43; (first | rw [cit_none] at hX | rw [cit_go i3_49 i4_50 (by omega) (by first | with_reducible assumption | omega)] at hX); (repeat (first | dsimp +instances only [c9n, c9f, c9T, c9G, c9K, c9F, b_come, b_leave, b_fill, awB, b_settle, b_wake, b_take, f_take, b_gather, f_gather, b_ask, a_ask, b_tell, c_close, d_close, k_add, k_rem, sco, k_clrF, k_mem, k_rebind, k_bnd, k_beg0, k_beg1, b_giveN, b_giveR, f_open, b_hand, k_op, b_turn, wlB, b_beat, f_anew, b_wipe, b_off, k_sadd, fits, frP, cntB, b_trace, b_child, k_lat, cond_true, cond_false, Option.elim_none, Option.elim_some, Option.getD_none, Option.getD_some] at hX | rw [eo_1] at hX | rw [eo_71] at hX | rw [if_pos (by first | with_reducible assumption | omega)] at hX | rw [if_neg (by first | with_reducible assumption | omega)] at hX | rw [jx_of (by omega)] at hX)); first | exact hX | (exfalso; omega) | exact hX) hQ ⟨i1_47, i2_48, i3_49, i4_50, i5_51, i6_66, i7_67, i8_68, i9_69, i10_64, i11_65⟩ hP hD hS (lv_sub hl [0, 1] rfl)
              · refine W.eq (g2 := F0 m 38 ls [.ref (ad (50 + 16 * j_72))]) (by first | rfl | (rw [eo_71]; rfl)) ?_
                have hj_72 : j_72 < M := i3_49 _ _ _ hj_58 eo_71
                refine lv_astore_n (lv' := [(1, .ref (ad (50 + 16 * j_72))), (0, .ref (ad (50 + 16 * i)))]) hx hb dX9_settleAwaited_38 rfl hl (by decide) rfl (fun ls hl => ?_)
                refine lv_goto (tgt := 8) hx hb dX9_settleAwaited_39 (by decide) ?_
                exact ih_45  (some j_72)  ws_63 G_62  H locs ls (by have := i4_50 _ _ hj_58 eo_71; simp only [chM] at *; omega) (fun _ h => by cases h; exact hj_72) (by show cit K b_settle (fun s => s) 201 (some j_72) (C9.mk n f T G_62 K F) = k_settle i (C9.mk n f T G K F); subst eG_62; have hX := v_43; (first | rw [cit_none] at hX | rw [cit_go i3_49 i4_50 (by omega) (by first | with_reducible assumption | omega)] at hX); (repeat (first | dsimp +instances only [c9n, c9f, c9T, c9G, c9K, c9F, b_come, b_leave, b_fill, awB, b_settle, b_wake, b_take, f_take, b_gather, f_gather, b_ask, a_ask, b_tell, c_close, d_close, k_add, k_rem, sco, k_clrF, k_mem, k_rebind, k_bnd, k_beg0, k_beg1, b_giveN, b_giveR, f_open, b_hand, k_op, b_turn, wlB, b_beat, f_anew, b_wipe, b_off, k_sadd, fits, frP, cntB, b_trace, b_child, k_lat, cond_true, cond_false, Option.elim_none, Option.elim_some, Option.getD_none, Option.getD_some] at hX | rw [eo_1] at hX | rw [eo_71] at hX | rw [if_pos (by first | with_reducible assumption | omega)] at hX | rw [if_neg (by first | with_reducible assumption | omega)] at hX | rw [jx_of (by omega)] at hX)); first | exact hX | (exfalso; omega) | exact hX) hQ ⟨i1_47, i2_48, i3_49, i4_50, i5_51, i6_66, i7_67, i8_68, i9_69, i10_64, i11_65⟩ hP hD hS (lv_sub hl [0, 1] rfl)
     exact L8 _  (some j_2)  ws G  _ _ _ (Nat.lt_succ_self _) (fun _ h => by cases h; exact hj_2) (by show cit K b_settle (fun s => s) 201 (some j_2) (C9.mk n f T G K F) = k_settle i (C9.mk n f T G K F); have hX := (k_settle.eq_1 i (C9.mk n f T G K F)).symm; (repeat (first | dsimp +instances only [c9n, c9f, c9T, c9G, c9K, c9F, b_come, b_leave, b_fill, awB, b_settle, b_wake, b_take, f_take, b_gather, f_gather, b_ask, a_ask, b_tell, c_close, d_close, k_add, k_rem, sco, k_clrF, k_mem, k_rebind, k_bnd, k_beg0, k_beg1, b_giveN, b_giveR, f_open, b_hand, k_op, b_turn, wlB, b_beat, f_anew, b_wipe, b_off, k_sadd, fits, frP, cntB, b_trace, b_child, k_lat, cond_true, cond_false, Option.elim_none, Option.elim_some, Option.getD_none, Option.getD_some] at hX | rw [eo_1] at hX | rw [if_pos (by first | with_reducible assumption | omega)] at hX | rw [if_neg (by first | with_reducible assumption | omega)] at hX | rw [jx_of (by omega)] at hX)); first | exact hX | (exfalso; omega) | exact hX) hQ ⟨h_i1, h_i2, h_i3, h_i4, h_i5, h_i6, h_i7, h_i8, h_i9, h_i10, h_i11⟩ hP hD hS (lv_sub hl [0, 1] rfl)
