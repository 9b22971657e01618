set_option maxHeartbeats 8000000 in
set_option maxRecDepth 100000 in
theorem c_X10_binds (l : Launch) (dC : Nat → ClassId) (dI : Nat → Nat → Nat) (kp : Int) (h0 : Nat) (X : Nat → Nat) (C : Nat → ClassId) (F : Nat → Nat → Int32) (n : Nat → Int32) (v1 : Int32) (v2 : Int32) (v3 : Int32) (sz : Nat) (hI : I10 kp F n) (hr : 0 ≤ v1.toInt ∧ v1.toInt < 200) (hs : 0 ≤ v2.toInt ∧ v2.toInt < 8) (hkp : kp ≤ 2000000000) (hib : (F 24 (Int32.toNatClampNeg v1)).toInt = 0) (hpl : (F 20 (Int32.toNatClampNeg v1)).toInt ≤ 23) : Met l yX10_binds (.code yX10_binds cX10_binds 5 (some .boolean) :: gw) ({ frames := 0, cells := 0, slots := 0, locals := 0 }) (va_Pc [.ref h0, .int v1, .int v2, .int v3] (fun U => U.heap.size = sz ∧ va_P (dC, dI) vwCl (w10 h0 X C (F 0) (F 1) (F 2) (F 3) (F 4) (F 5) (F 6) (F 7) (F 8) (F 10) (F 13) (F 14) (F 15) (F 16) (F 17) (F 18) (F 19) (F 20) (F 21) (F 22) (F 23) (F 24) (F 25) (F 26) (F 27) (F 28) (F 29) (F 30) (F 31) (F 32) (F 33) (F 34) (F 35) (F 36) (F 37) (F 38) (F 39) (F 40) (F 41) (F 42) (F 43) (F 49) (F 50) (F 51) (F 52) (F 53) (F 54) (F 55) (F 56) (F 57) (F 58) (F 59) (n 9) (n 11) (n 12) (n 44) (n 45) (n 46) (n 47) (n 48)) U.heap ∧ va_K (dC, dI) vwCl (t10 C) U ∧ va_D (fun _ => True) (w10 h0 X C (F 0) (F 1) (F 2) (F 3) (F 4) (F 5) (F 6) (F 7) (F 8) (F 10) (F 13) (F 14) (F 15) (F 16) (F 17) (F 18) (F 19) (F 20) (F 21) (F 22) (F 23) (F 24) (F 25) (F 26) (F 27) (F 28) (F 29) (F 30) (F 31) (F 32) (F 33) (F 34) (F 35) (F 36) (F 37) (F 38) (F 39) (F 40) (F 41) (F 42) (F 43) (F 49) (F 50) (F 51) (F 52) (F 53) (F 54) (F 55) (F 56) (F 57) (F 58) (F 59) (n 9) (n 11) (n 12) (n 44) (n 45) (n 46) (n 47) (n 48)) ∧ nx U)) (va_Qi (fun (r : Int32) (u : (Nat → Nat → Int32) × (Nat → Int32)) => (r = 1 ∧ (u.1 13 (Int32.toNatClampNeg v1)).toInt = (F 13 (Int32.toNatClampNeg v1)).toInt ∧ (u.1 20 (Int32.toNatClampNeg v1)).toInt = (F 20 (Int32.toNatClampNeg v1)).toInt ∧ (u.1 24 (Int32.toNatClampNeg v1)).toInt = (F 24 (Int32.toNatClampNeg v1)).toInt ∧ (n 11).toInt ≤ (u.2 11).toInt ∧ ∀ z : Int32, z.toInt = (F 20 (Int32.toNatClampNeg v1)).toInt + 1 → I10 (kp + 1) (fun k => ([u.1 0, u.1 1, u.1 2, u.1 3, u.1 4, u.1 5, u.1 6, u.1 7, u.1 8, (fun _ => 0), u.1 10, (fun _ => 0), (fun _ => 0), u.1 13, u.1 14, u.1 15, u.1 16, u.1 17, u.1 18, u.1 19, upd (u.1 20) (Int32.toNatClampNeg v1) z, u.1 21, u.1 22, u.1 23, u.1 24, u.1 25, u.1 26, u.1 27, u.1 28, u.1 29, u.1 30, u.1 31, u.1 32, u.1 33, u.1 34, u.1 35, u.1 36, u.1 37, u.1 38, u.1 39, u.1 40, u.1 41, u.1 42, u.1 43, (fun _ => 0), (fun _ => 0), (fun _ => 0), (fun _ => 0), (fun _ => 0), u.1 49, u.1 50, u.1 51, u.1 52, u.1 53, u.1 54, u.1 55, u.1 56, u.1 57, u.1 58, u.1 59] : List (Nat → Int32)).getD k (fun _ => 0)) u.2) ∨ (r = 0 ∧ (u.1 13 (Int32.toNatClampNeg v1)).toInt = (F 13 (Int32.toNatClampNeg v1)).toInt ∧ (u.1 20 (Int32.toNatClampNeg v1)).toInt = (F 20 (Int32.toNatClampNeg v1)).toInt ∧ (u.1 24 (Int32.toNatClampNeg v1)).toInt = (F 24 (Int32.toNatClampNeg v1)).toInt ∧ (n 11).toInt ≤ (u.2 11).toInt ∧ I10 kp u.1 u.2)) (fun u t => va_P (dC, dI) vwCl (w10 h0 X C (u.1 0) (u.1 1) (u.1 2) (u.1 3) (u.1 4) (u.1 5) (u.1 6) (u.1 7) (u.1 8) (u.1 10) (u.1 13) (u.1 14) (u.1 15) (u.1 16) (u.1 17) (u.1 18) (u.1 19) (u.1 20) (u.1 21) (u.1 22) (u.1 23) (u.1 24) (u.1 25) (u.1 26) (u.1 27) (u.1 28) (u.1 29) (u.1 30) (u.1 31) (u.1 32) (u.1 33) (u.1 34) (u.1 35) (u.1 36) (u.1 37) (u.1 38) (u.1 39) (u.1 40) (u.1 41) (u.1 42) (u.1 43) (u.1 49) (u.1 50) (u.1 51) (u.1 52) (u.1 53) (u.1 54) (u.1 55) (u.1 56) (u.1 57) (u.1 58) (u.1 59) (u.2 9) (u.2 11) (u.2 12) (u.2 44) (u.2 45) (u.2 46) (u.2 47) (u.2 48)) t.heap ∧ va_D (va_A (w10 h0 X C (F 0) (F 1) (F 2) (F 3) (F 4) (F 5) (F 6) (F 7) (F 8) (F 10) (F 13) (F 14) (F 15) (F 16) (F 17) (F 18) (F 19) (F 20) (F 21) (F 22) (F 23) (F 24) (F 25) (F 26) (F 27) (F 28) (F 29) (F 30) (F 31) (F 32) (F 33) (F 34) (F 35) (F 36) (F 37) (F 38) (F 39) (F 40) (F 41) (F 42) (F 43) (F 49) (F 50) (F 51) (F 52) (F 53) (F 54) (F 55) (F 56) (F 57) (F 58) (F 59) (n 9) (n 11) (n 12) (n 44) (n 45) (n 46) (n 47) (n 48)) sz) (w10 h0 X C (u.1 0) (u.1 1) (u.1 2) (u.1 3) (u.1 4) (u.1 5) (u.1 6) (u.1 7) (u.1 8) (u.1 10) (u.1 13) (u.1 14) (u.1 15) (u.1 16) (u.1 17) (u.1 18) (u.1 19) (u.1 20) (u.1 21) (u.1 22) (u.1 23) (u.1 24) (u.1 25) (u.1 26) (u.1 27) (u.1 28) (u.1 29) (u.1 30) (u.1 31) (u.1 32) (u.1 33) (u.1 34) (u.1 35) (u.1 36) (u.1 37) (u.1 38) (u.1 39) (u.1 40) (u.1 41) (u.1 42) (u.1 43) (u.1 49) (u.1 50) (u.1 51) (u.1 52) (u.1 53) (u.1 54) (u.1 55) (u.1 56) (u.1 57) (u.1 58) (u.1 59) (u.2 9) (u.2 11) (u.2 12) (u.2 44) (u.2 45) (u.2 46) (u.2 47) (u.2 48))) (va_A (w10 h0 X C (F 0) (F 1) (F 2) (F 3) (F 4) (F 5) (F 6) (F 7) (F 8) (F 10) (F 13) (F 14) (F 15) (F 16) (F 17) (F 18) (F 19) (F 20) (F 21) (F 22) (F 23) (F 24) (F 25) (F 26) (F 27) (F 28) (F 29) (F 30) (F 31) (F 32) (F 33) (F 34) (F 35) (F 36) (F 37) (F 38) (F 39) (F 40) (F 41) (F 42) (F 43) (F 49) (F 50) (F 51) (F 52) (F 53) (F 54) (F 55) (F 56) (F 57) (F 58) (F 59) (n 9) (n 11) (n 12) (n 44) (n 45) (n 46) (n 47) (n 48)) sz)) 0 0 (va_A (w10 h0 X C (F 0) (F 1) (F 2) (F 3) (F 4) (F 5) (F 6) (F 7) (F 8) (F 10) (F 13) (F 14) (F 15) (F 16) (F 17) (F 18) (F 19) (F 20) (F 21) (F 22) (F 23) (F 24) (F 25) (F 26) (F 27) (F 28) (F 29) (F 30) (F 31) (F 32) (F 33) (F 34) (F 35) (F 36) (F 37) (F 38) (F 39) (F 40) (F 41) (F 42) (F 43) (F 49) (F 50) (F 51) (F 52) (F 53) (F 54) (F 55) (F 56) (F 57) (F 58) (F 59) (n 9) (n 11) (n 12) (n 44) (n 45) (n 46) (n 47) (n 48)) sz) := by
  refine Met.ofW (cc := cX10_binds) (maxL := 5) (ret := (some .boolean)) (by decide) rfl ?_
  intro p e s m args below meth c s₁ B hml hv
  obtain ⟨rfl, hsz, hP, hK, hD0, hN⟩ := hv
  have hx := B.exec
  have hb := B.bytes
  have hr := B.returns
  have hts := atoms_spec (ws := .code yX10_binds cX10_binds 5 (some .boolean) :: gw) B.pre
  have hg : ∀ w ∈ gw, w.before _ s = true := fun w h => hts w (List.mem_cons_of_mem _ h)
  have hown : s.vm.findClass RX10 = some m.cls := findClass_of_methodNamed B.named
  have hlocks := B.notSynchronized
  subst hsz
  have hD := hD0.self (sz := s.heap.size)
  generalize hAe : va_A (w10 h0 X C (F 0) (F 1) (F 2) (F 3) (F 4) (F 5) (F 6) (F 7) (F 8) (F 10) (F 13) (F 14) (F 15) (F 16) (F 17) (F 18) (F 19) (F 20) (F 21) (F 22) (F 23) (F 24) (F 25) (F 26) (F 27) (F 28) (F 29) (F 30) (F 31) (F 32) (F 33) (F 34) (F 35) (F 36) (F 37) (F 38) (F 39) (F 40) (F 41) (F 42) (F 43) (F 49) (F 50) (F 51) (F 52) (F 53) (F 54) (F 55) (F 56) (F 57) (F 58) (F 59) (n 9) (n 11) (n 12) (n 44) (n 45) (n 46) (n 47) (n 48)) s.heap.size = A at hD ⊢
  have hA : ∀ q : Nat, s.heap.size ≤ q → A q := fun q h => by rw [← hAe]; exact Or.inr h
  have hS : va_S A s.heap s.heap [] := va_S.rf
  have hP : va_P (dC, dI) vwCl (w10 h0 X C (F 0) (F 1) (F 2) (F 3) (F 4) (F 5) (F 6) (F 7) (F 8) (F 10) (F 13) (F 14) (F 15) (F 16) (F 17) (F 18) (F 19) (F 20) (F 21) (F 22) (F 23) (F 24) (F 25) (F 26) (F 27) (F 28) (F 29) (F 30) (F 31) (F 32) (F 33) (F 34) (F 35) (F 36) (F 37) (F 38) (F 39) (F 40) (F 41) (F 42) (F 43) (F 49) (F 50) (F 51) (F 52) (F 53) (F 54) (F 55) (F 56) (F 57) (F 58) (F 59) (n 9) (n 11) (n 12) (n 44) (n 45) (n 46) (n 47) (n 48)) s.heap := hP
  have hl := lv_entry ([.ref h0, .int v1, .int v2, .int v3]) (n := 5) (Nat.le_of_ble_eq_true rfl)
  rw [lg_entry_eq]
  generalize (lg_sl ([.ref h0, .int v1, .int v2, .int v3]) ++ List.replicate (5 - (lg_sl ([.ref h0, .int v1, .int v2, .int v3])).length) Slot.unset).toArray = ls at hl ⊢
  have hl : lv_has ls 5 [(0, .ref h0), (1, .int v1), (2, .int v2), (3, .int v3)] := hl
  obtain ⟨b_1, b_2, b_3, b_4, b_5, b_6, b_7, b_8, b_9, b_10, b_11, b_12, i_13, i_14, i_15, i_16, i_17, i_18, i_19, j_20, j_21, j_22, j_23, j_24, j_25, j_26, j_27, j_28, j_29⟩ := id hI
  have p36 := b_10 (Int32.toNatClampNeg v1)
  have p20 := b_8 (Int32.toNatClampNeg v1)
  have jj3 := j_23 (Int32.toNatClampNeg v1)
  have ce1 := cl_eq v1
  refine lv_aload_n hx hb dX10_binds_0 rfl (lv_at hl 0 rfl) ?_
  refine va_get (D := (dC, dI)) (ci := 10) (v := .ref (X 0)) (C := RX10) (T := TX10) (N := 60) hx hb hg gb_10 hown hK hP 0 rfl rfl 0 (by decide) (hg _ gm_fieldLink_RX10_7_ErrandGuildModel_manner_AI_) (fun _ h9 => h9) rfl dX10_binds_1 ?_
  refine lv_iload_n hx hb dX10_binds_4 rfl (lv_at hl 2 rfl) ?_
  refine va_iald (f := F 0) hx hb hK hP 1 0 rfl rfl (vp_in_iff.mpr ⟨by omega, by omega⟩) dX10_binds_5 ?_
  refine lv_topi (fun z_30 ez_30 => ?_)
  have qz_30 := congrArg Int32.toInt ez_30
  refine lv_iconst (v := 3) hx hb dX10_binds_6 (by decide) ?_
  refine lv_icmp_eq (tgt := 12) hx hb dX10_binds_7 (by decide) (fun c_31 => ?_) (fun c_31 => ?_)
  · simp only [i_lt, i_le, i_eq, ti_3] at c_31
    refine lv_bipush (v := 24) hx hb dX10_binds_12 (by decide) ?_
    refine lv_iload_n hx hb dX10_binds_14 rfl (lv_at hl 1 rfl) ?_
    refine lv_imul hx hb dX10_binds_15 ?_
    refine lv_topi (fun z_32 ez_32 => ?_)
    have tz_32 : z_32.toInt = 24 * v1.toInt := ar_mul ti_24 rfl ez_32 (by omega)
    refine lv_aload_n hx hb dX10_binds_16 rfl (lv_at hl 0 rfl) ?_
    refine va_get (D := (dC, dI)) (ci := 10) (v := .ref (X 36)) (C := RX10) (T := TX10) (N := 60) hx hb hg gb_10 hown hK hP 0 rfl rfl 36 (by decide) (hg _ gm_fieldLink_RX10_114_ErrandGuildModel_bindMany_AI_) (fun _ h9 => h9) rfl dX10_binds_17 ?_
    refine lv_iload_n hx hb dX10_binds_20 rfl (lv_at hl 1 rfl) ?_
    refine va_iald (f := F 36) hx hb hK hP 34 33 rfl rfl (vp_in_iff.mpr ⟨by omega, by omega⟩) dX10_binds_21 ?_
    refine lv_topi (fun z_33 ez_33 => ?_)
    have qz_33 := congrArg Int32.toInt ez_33
    have bz_33 := bd_at b_10 ez_33
    refine lv_iadd hx hb dX10_binds_22 ?_
    refine lv_topi (fun z_34 ez_34 => ?_)
    have tz_34 : z_34.toInt = z_32.toInt + z_33.toInt := ar_add rfl rfl ez_34 (by omega)
    refine lv_istore (lv' := [(4, .int z_34), (0, .ref h0), (1, .int v1), (2, .int v2), (3, .int v3)]) hx hb dX10_binds_23 hl (by decide) rfl (fun ls hl => ?_)
    refine lv_aload_n hx hb dX10_binds_25 rfl (lv_at hl 1 rfl) ?_
    refine va_get (D := (dC, dI)) (ci := 10) (v := .ref (X 37)) (C := RX10) (T := TX10) (N := 60) hx hb hg gb_10 hown hK hP 0 rfl rfl 37 (by decide) (hg _ gm_fieldLink_RX10_117_ErrandGuildModel_bindSlot_AI_) (fun _ h9 => h9) rfl dX10_binds_26 ?_
    refine lv_iload hx hb dX10_binds_29 (lv_at hl 0 rfl) ?_
    refine lv_iload_n hx hb dX10_binds_31 rfl (lv_at hl 3 rfl) ?_
    refine va_iast (f := F 37) hx hb hK hP hD hS 35 34 rfl rfl (vp_in_iff.mpr ⟨by omega, by omega⟩) dX10_binds_32 (fun H locs hP hD hS => ?_)
    have hP : va_P (dC, dI) vwCl (w10 h0 X C (F 0) (F 1) (F 2) (F 3) (F 4) (F 5) (F 6) (F 7) (F 8) (F 10) (F 13) (F 14) (F 15) (F 16) (F 17) (F 18) (F 19) (F 20) (F 21) (F 22) (F 23) (F 24) (F 25) (F 26) (F 27) (F 28) (F 29) (F 30) (F 31) (F 32) (F 33) (F 34) (F 35) (F 36) (upd (F 37) (Int32.toNatClampNeg z_34) v2) (F 38) (F 39) (F 40) (F 41) (F 42) (F 43) (F 49) (F 50) (F 51) (F 52) (F 53) (F 54) (F 55) (F 56) (F 57) (F 58) (F 59) (n 9) (n 11) (n 12) (n 44) (n 45) (n 46) (n 47) (n 48)) H := hP
    have hD : va_D A (w10 h0 X C (F 0) (F 1) (F 2) (F 3) (F 4) (F 5) (F 6) (F 7) (F 8) (F 10) (F 13) (F 14) (F 15) (F 16) (F 17) (F 18) (F 19) (F 20) (F 21) (F 22) (F 23) (F 24) (F 25) (F 26) (F 27) (F 28) (F 29) (F 30) (F 31) (F 32) (F 33) (F 34) (F 35) (F 36) (upd (F 37) (Int32.toNatClampNeg z_34) v2) (F 38) (F 39) (F 40) (F 41) (F 42) (F 43) (F 49) (F 50) (F 51) (F 52) (F 53) (F 54) (F 55) (F 56) (F 57) (F 58) (F 59) (n 9) (n 11) (n 12) (n 44) (n 45) (n 46) (n 47) (n 48)) := hD
    refine lv_aload_n hx hb dX10_binds_33 rfl (lv_at hl 1 rfl) ?_
    refine va_get (D := (dC, dI)) (ci := 10) (v := .ref (X 38)) (C := RX10) (T := TX10) (N := 60) hx hb hg gb_10 hown hK hP 0 rfl rfl 38 (by decide) (hg _ gm_fieldLink_RX10_120_ErrandGuildModel_bindValue_AI_) (fun _ h9 => h9) rfl dX10_binds_34 ?_
    refine lv_iload hx hb dX10_binds_37 (lv_at hl 0 rfl) ?_
    refine lv_iload_n hx hb dX10_binds_39 rfl (lv_at hl 4 rfl) ?_
    refine va_iast (f := F 38) hx hb hK hP hD hS 36 35 rfl rfl (vp_in_iff.mpr ⟨by omega, by omega⟩) dX10_binds_40 (fun H locs hP hD hS => ?_)
    have hP : va_P (dC, dI) vwCl (w10 h0 X C (F 0) (F 1) (F 2) (F 3) (F 4) (F 5) (F 6) (F 7) (F 8) (F 10) (F 13) (F 14) (F 15) (F 16) (F 17) (F 18) (F 19) (F 20) (F 21) (F 22) (F 23) (F 24) (F 25) (F 26) (F 27) (F 28) (F 29) (F 30) (F 31) (F 32) (F 33) (F 34) (F 35) (F 36) (upd (F 37) (Int32.toNatClampNeg z_34) v2) (upd (F 38) (Int32.toNatClampNeg z_34) v3) (F 39) (F 40) (F 41) (F 42) (F 43) (F 49) (F 50) (F 51) (F 52) (F 53) (F 54) (F 55) (F 56) (F 57) (F 58) (F 59) (n 9) (n 11) (n 12) (n 44) (n 45) (n 46) (n 47) (n 48)) H := hP
    have hD : va_D A (w10 h0 X C (F 0) (F 1) (F 2) (F 3) (F 4) (F 5) (F 6) (F 7) (F 8) (F 10) (F 13) (F 14) (F 15) (F 16) (F 17) (F 18) (F 19) (F 20) (F 21) (F 22) (F 23) (F 24) (F 25) (F 26) (F 27) (F 28) (F 29) (F 30) (F 31) (F 32) (F 33) (F 34) (F 35) (F 36) (upd (F 37) (Int32.toNatClampNeg z_34) v2) (upd (F 38) (Int32.toNatClampNeg z_34) v3) (F 39) (F 40) (F 41) (F 42) (F 43) (F 49) (F 50) (F 51) (F 52) (F 53) (F 54) (F 55) (F 56) (F 57) (F 58) (F 59) (n 9) (n 11) (n 12) (n 44) (n 45) (n 46) (n 47) (n 48)) := hD
    refine lv_aload_n hx hb dX10_binds_41 rfl (lv_at hl 1 rfl) ?_
    refine va_get (D := (dC, dI)) (ci := 10) (v := .ref (X 42)) (C := RX10) (T := TX10) (N := 60) hx hb hg gb_10 hown hK hP 0 rfl rfl 42 (by decide) (hg _ gm_fieldLink_RX10_132_ErrandGuildModel_bindNumber_AI_) (fun _ h9 => h9) rfl dX10_binds_42 ?_
    refine lv_iload hx hb dX10_binds_45 (lv_at hl 0 rfl) ?_
    refine lv_aload_n hx hb dX10_binds_47 rfl (lv_at hl 1 rfl) ?_
    refine va_get (D := (dC, dI)) (ci := 10) (v := .int (n 44)) (C := RX10) (T := TX10) (N := 60) hx hb hg gb_10 hown hK hP 0 rfl rfl 44 (by decide) (hg _ gm_fieldLink_RX10_256_ErrandGuildModel_opened_I_) (fun _ h9 => h9) rfl dX10_binds_48 ?_
    refine va_iast (f := F 42) hx hb hK hP hD hS 40 39 rfl rfl (vp_in_iff.mpr ⟨by omega, by omega⟩) dX10_binds_51 (fun H locs hP hD hS => ?_)
    have hP : va_P (dC, dI) vwCl (w10 h0 X C (F 0) (F 1) (F 2) (F 3) (F 4) (F 5) (F 6) (F 7) (F 8) (F 10) (F 13) (F 14) (F 15) (F 16) (F 17) (F 18) (F 19) (F 20) (F 21) (F 22) (F 23) (F 24) (F 25) (F 26) (F 27) (F 28) (F 29) (F 30) (F 31) (F 32) (F 33) (F 34) (F 35) (F 36) (upd (F 37) (Int32.toNatClampNeg z_34) v2) (upd (F 38) (Int32.toNatClampNeg z_34) v3) (F 39) (F 40) (F 41) (upd (F 42) (Int32.toNatClampNeg z_34) (n 44)) (F 43) (F 49) (F 50) (F 51) (F 52) (F 53) (F 54) (F 55) (F 56) (F 57) (F 58) (F 59) (n 9) (n 11) (n 12) (n 44) (n 45) (n 46) (n 47) (n 48)) H := hP
    have hD : va_D A (w10 h0 X C (F 0) (F 1) (F 2) (F 3) (F 4) (F 5) (F 6) (F 7) (F 8) (F 10) (F 13) (F 14) (F 15) (F 16) (F 17) (F 18) (F 19) (F 20) (F 21) (F 22) (F 23) (F 24) (F 25) (F 26) (F 27) (F 28) (F 29) (F 30) (F 31) (F 32) (F 33) (F 34) (F 35) (F 36) (upd (F 37) (Int32.toNatClampNeg z_34) v2) (upd (F 38) (Int32.toNatClampNeg z_34) v3) (F 39) (F 40) (F 41) (upd (F 42) (Int32.toNatClampNeg z_34) (n 44)) (F 43) (F 49) (F 50) (F 51) (F 52) (F 53) (F 54) (F 55) (F 56) (F 57) (F 58) (F 59) (n 9) (n 11) (n 12) (n 44) (n 45) (n 46) (n 47) (n 48)) := hD
    refine lv_aload_n hx hb dX10_binds_52 rfl (lv_at hl 1 rfl) ?_
    refine lv_aload_n hx hb dX10_binds_53 rfl (lv_at hl 1 rfl) ?_
    refine va_get (D := (dC, dI)) (ci := 10) (v := .int (n 44)) (C := RX10) (T := TX10) (N := 60) hx hb hg gb_10 hown hK hP 0 rfl rfl 44 (by decide) (hg _ gm_fieldLink_RX10_256_ErrandGuildModel_opened_I_) (fun _ h9 => h9) rfl dX10_binds_54 ?_
    refine lv_iconst (v := 1) hx hb dX10_binds_57 (by decide) ?_
    refine lv_iadd hx hb dX10_binds_58 ?_
    refine lv_topi (fun z_35 ez_35 => ?_)
    have tz_35 : z_35.toInt = (n 44).toInt + 1 := ar_add rfl ti_1 ez_35 (by omega)
    refine va_put (D := (dC, dI)) (ci := 10) (v := .int z_35) (ty := .int) (C := RX10) (T := TX10) (N := 60) hx hb hg gb_10 tyX10 tyX10_ok nmX10 hown hK hP hD hS 0 rfl rfl 44 (by decide) (hg _ gm_fieldLink_RX10_256_ErrandGuildModel_opened_I_) (fun _ h9 => h9) rfl (by decide +kernel) rfl rfl (Nat.le_of_ble_eq_true rfl) dX10_binds_59 (fun H locs hP hD hS => ?_)
    have hP : va_P (dC, dI) vwCl (w10 h0 X C (F 0) (F 1) (F 2) (F 3) (F 4) (F 5) (F 6) (F 7) (F 8) (F 10) (F 13) (F 14) (F 15) (F 16) (F 17) (F 18) (F 19) (F 20) (F 21) (F 22) (F 23) (F 24) (F 25) (F 26) (F 27) (F 28) (F 29) (F 30) (F 31) (F 32) (F 33) (F 34) (F 35) (F 36) (upd (F 37) (Int32.toNatClampNeg z_34) v2) (upd (F 38) (Int32.toNatClampNeg z_34) v3) (F 39) (F 40) (F 41) (upd (F 42) (Int32.toNatClampNeg z_34) (n 44)) (F 43) (F 49) (F 50) (F 51) (F 52) (F 53) (F 54) (F 55) (F 56) (F 57) (F 58) (F 59) (n 9) (n 11) (n 12) z_35 (n 45) (n 46) (n 47) (n 48)) H := hP
    have hD : va_D A (w10 h0 X C (F 0) (F 1) (F 2) (F 3) (F 4) (F 5) (F 6) (F 7) (F 8) (F 10) (F 13) (F 14) (F 15) (F 16) (F 17) (F 18) (F 19) (F 20) (F 21) (F 22) (F 23) (F 24) (F 25) (F 26) (F 27) (F 28) (F 29) (F 30) (F 31) (F 32) (F 33) (F 34) (F 35) (F 36) (upd (F 37) (Int32.toNatClampNeg z_34) v2) (upd (F 38) (Int32.toNatClampNeg z_34) v3) (F 39) (F 40) (F 41) (upd (F 42) (Int32.toNatClampNeg z_34) (n 44)) (F 43) (F 49) (F 50) (F 51) (F 52) (F 53) (F 54) (F 55) (F 56) (F 57) (F 58) (F 59) (n 9) (n 11) (n 12) z_35 (n 45) (n 46) (n 47) (n 48)) := hD
    have i_37 : 0 ≤ (n 45).toInt ∧ (n 45).toInt ≤ (kp + 1) := by omega
    have i_38 : 0 ≤ (n 48).toInt ∧ (n 48).toInt ≤ (kp + 1) := by omega
    have i_36 : 0 ≤ z_35.toInt ∧ z_35.toInt ≤ (kp + 1) := by omega
    have j_39 : J9 (F 43) z_35 := J9_up j_29 (by omega)
    refine lv_aload_n hx hb dX10_binds_62 rfl (lv_at hl 1 rfl) ?_
    refine va_get (D := (dC, dI)) (ci := 10) (v := .ref (X 36)) (C := RX10) (T := TX10) (N := 60) hx hb hg gb_10 hown hK hP 0 rfl rfl 36 (by decide) (hg _ gm_fieldLink_RX10_114_ErrandGuildModel_bindMany_AI_) (fun _ h9 => h9) rfl dX10_binds_63 ?_
    refine lv_iload_n hx hb dX10_binds_66 rfl (lv_at hl 2 rfl) ?_
    refine lv_aload_n hx hb dX10_binds_67 rfl (lv_at hl 1 rfl) ?_
    refine va_get (D := (dC, dI)) (ci := 10) (v := .ref (X 36)) (C := RX10) (T := TX10) (N := 60) hx hb hg gb_10 hown hK hP 0 rfl rfl 36 (by decide) (hg _ gm_fieldLink_RX10_114_ErrandGuildModel_bindMany_AI_) (fun _ h9 => h9) rfl dX10_binds_68 ?_
    refine lv_iload_n hx hb dX10_binds_71 rfl (lv_at hl 2 rfl) ?_
    refine va_iald (f := F 36) hx hb hK hP 34 33 rfl rfl (vp_in_iff.mpr ⟨by omega, by omega⟩) dX10_binds_72 ?_
    refine lv_topi (fun z_40 ez_40 => ?_)
    obtain rfl : z_33 = z_40 := ez_33.trans ez_40.symm
    refine lv_iconst (v := 1) hx hb dX10_binds_73 (by decide) ?_
    refine lv_iadd hx hb dX10_binds_74 ?_
    refine lv_topi (fun z_41 ez_41 => ?_)
    have tz_41 : z_41.toInt = z_33.toInt + 1 := ar_add rfl ti_1 ez_41 (by omega)
    refine va_iast (f := F 36) hx hb hK hP hD hS 34 33 rfl rfl (vp_in_iff.mpr ⟨by omega, by omega⟩) dX10_binds_75 (fun H locs hP hD hS => ?_)
    have hP : va_P (dC, dI) vwCl (w10 h0 X C (F 0) (F 1) (F 2) (F 3) (F 4) (F 5) (F 6) (F 7) (F 8) (F 10) (F 13) (F 14) (F 15) (F 16) (F 17) (F 18) (F 19) (F 20) (F 21) (F 22) (F 23) (F 24) (F 25) (F 26) (F 27) (F 28) (F 29) (F 30) (F 31) (F 32) (F 33) (F 34) (F 35) (upd (F 36) (Int32.toNatClampNeg v1) z_41) (upd (F 37) (Int32.toNatClampNeg z_34) v2) (upd (F 38) (Int32.toNatClampNeg z_34) v3) (F 39) (F 40) (F 41) (upd (F 42) (Int32.toNatClampNeg z_34) (n 44)) (F 43) (F 49) (F 50) (F 51) (F 52) (F 53) (F 54) (F 55) (F 56) (F 57) (F 58) (F 59) (n 9) (n 11) (n 12) z_35 (n 45) (n 46) (n 47) (n 48)) H := hP
    have hD : va_D A (w10 h0 X C (F 0) (F 1) (F 2) (F 3) (F 4) (F 5) (F 6) (F 7) (F 8) (F 10) (F 13) (F 14) (F 15) (F 16) (F 17) (F 18) (F 19) (F 20) (F 21) (F 22) (F 23) (F 24) (F 25) (F 26) (F 27) (F 28) (F 29) (F 30) (F 31) (F 32) (F 33) (F 34) (F 35) (upd (F 36) (Int32.toNatClampNeg v1) z_41) (upd (F 37) (Int32.toNatClampNeg z_34) v2) (upd (F 38) (Int32.toNatClampNeg z_34) v3) (F 39) (F 40) (F 41) (upd (F 42) (Int32.toNatClampNeg z_34) (n 44)) (F 43) (F 49) (F 50) (F 51) (F 52) (F 53) (F 54) (F 55) (F 56) (F 57) (F 58) (F 59) (n 9) (n 11) (n 12) z_35 (n 45) (n 46) (n 47) (n 48)) := hD
    have b_42 := bd_upd b_10 (Int32.toNatClampNeg v1) (x := z_41) (by omega) (by omega)
    have cz := cl_eq z_34
    have j_43 : J5 (F 39) (upd (F 36) (Int32.toNatClampNeg v1) z_41) (F 41) (F 43) (upd (F 42) (Int32.toNatClampNeg z_34) (n 44)) := J5_bind (b := (F 36 (Int32.toNatClampNeg v1)).toInt.toNat) j_25 j_29 (by omega) (by omega) (by omega) (by omega)
    refine lv_iconst (v := 1) hx hb dX10_binds_76 (by decide) ?_
    exact W.zret (v := 1) hx hb hr rfl (fun t ht hW => ⟨⟨1, ((fun k => ([F 0, F 1, F 2, F 3, F 4, F 5, F 6, F 7, F 8, (fun _ => 0), F 10, (fun _ => 0), (fun _ => 0), F 13, F 14, F 15, F 16, F 17, F 18, F 19, F 20, F 21, F 22, F 23, F 24, F 25, F 26, F 27, F 28, F 29, F 30, F 31, F 32, F 33, F 34, F 35, upd (F 36) (Int32.toNatClampNeg v1) z_41, upd (F 37) (Int32.toNatClampNeg z_34) v2, upd (F 38) (Int32.toNatClampNeg z_34) v3, F 39, F 40, F 41, upd (F 42) (Int32.toNatClampNeg z_34) (n 44), F 43, (fun _ => 0), (fun _ => 0), (fun _ => 0), (fun _ => 0), (fun _ => 0), F 49, F 50, F 51, F 52, F 53, F 54, F 55, F 56, F 57, F 58, F 59] : List (Nat → Int32)).getD k (fun _ => 0)), (fun k => ([0, 0, 0, 0, 0, 0, 0, 0, 0, n 9, 0, n 11, n 12, 0, 0, 0, 0, 0, 0, 0, 0, 0, 0, 0, 0, 0, 0, 0, 0, 0, 0, 0, 0, 0, 0, 0, 0, 0, 0, 0, 0, 0, 0, 0, z_35, n 45, n 46, n 47, n 48, 0, 0, 0, 0, 0, 0, 0, 0, 0, 0, 0] : List Int32).getD k 0)), rfl, (Or.inl ⟨rfl, ⟨rfl, rfl, rfl, Int.le_refl _, fun z hz => ⟨b_1, b_2, b_3, b_4, b_5, b_6, b_7, (bd_upd b_8 (Int32.toNatClampNeg v1) (by omega) (by omega)), b_9, b_42, b_11, b_12, i_13, i_14, i_36, i_37, i_17, i_18, i_38, j_20, j_21, (J2_pl j_22 (Int32.toNatClampNeg v1) (by have h_ := j_22 (Int32.toNatClampNeg v1); omega)), (J2_both j_23 (Int32.toNatClampNeg v1) (by omega)), j_24, j_43, j_26, (J7_pl j_27 (Int32.toNatClampNeg v1) (Or.inl hib)), j_28, j_39⟩⟩⟩), by rw [ht]; exact hP, hD⟩, hS.F ht⟩) hS.2.2 dX10_binds_77
  · simp only [i_lt, i_le, i_eq, ti_3] at c_31
    refine lv_iconst (v := 0) hx hb dX10_binds_10 (by decide) ?_
    exact W.zret (v := 0) hx hb hr rfl (fun t ht hW => ⟨⟨0, (F, n), rfl, (Or.inr ⟨rfl, ⟨rfl, rfl, rfl, Int.le_refl _, ⟨b_1, b_2, b_3, b_4, b_5, b_6, b_7, b_8, b_9, b_10, b_11, b_12, i_13, i_14, i_15, i_16, i_17, i_18, i_19, j_20, j_21, j_22, j_23, j_24, j_25, j_26, j_27, j_28, j_29⟩⟩⟩), by rw [ht]; exact hP, hD⟩, hS.F ht⟩) hS.2.2 dX10_binds_11

set_option maxHeartbeats 8000000 in
set_option maxRecDepth 100000 in
theorem c_X10_does (l : Launch) (dC : Nat → ClassId) (dI : Nat → Nat → Nat) (kp : Int) (h0 : Nat) (X : Nat → Nat) (C : Nat → ClassId) (F : Nat → Nat → Int32) (n : Nat → Int32) (v1 : Int32) (sz : Nat) (hI : I10 kp F n) (hr : 0 ≤ v1.toInt ∧ v1.toInt < 200) (hrn : v1.toInt < (n 11).toInt) (hs1 : (F 13 (Int32.toNatClampNeg v1)).toInt = 1) (hib : (F 24 (Int32.toNatClampNeg v1)).toInt = 0) (hkp : kp ≤ 2000000000) : Met l yX10_does (.code yX10_does cX10_does 7 none :: gw) ({ frames := 4, cells := 0, slots := 0, locals := 96 }) (va_Pc [.ref h0, .int v1] (fun U => U.heap.size = sz ∧ va_P (dC, dI) vwCl (w10 h0 X C (F 0) (F 1) (F 2) (F 3) (F 4) (F 5) (F 6) (F 7) (F 8) (F 10) (F 13) (F 14) (F 15) (F 16) (F 17) (F 18) (F 19) (F 20) (F 21) (F 22) (F 23) (F 24) (F 25) (F 26) (F 27) (F 28) (F 29) (F 30) (F 31) (F 32) (F 33) (F 34) (F 35) (F 36) (F 37) (F 38) (F 39) (F 40) (F 41) (F 42) (F 43) (F 49) (F 50) (F 51) (F 52) (F 53) (F 54) (F 55) (F 56) (F 57) (F 58) (F 59) (n 9) (n 11) (n 12) (n 44) (n 45) (n 46) (n 47) (n 48)) U.heap ∧ va_K (dC, dI) vwCl (t10 C) U ∧ va_D (fun _ => True) (w10 h0 X C (F 0) (F 1) (F 2) (F 3) (F 4) (F 5) (F 6) (F 7) (F 8) (F 10) (F 13) (F 14) (F 15) (F 16) (F 17) (F 18) (F 19) (F 20) (F 21) (F 22) (F 23) (F 24) (F 25) (F 26) (F 27) (F 28) (F 29) (F 30) (F 31) (F 32) (F 33) (F 34) (F 35) (F 36) (F 37) (F 38) (F 39) (F 40) (F 41) (F 42) (F 43) (F 49) (F 50) (F 51) (F 52) (F 53) (F 54) (F 55) (F 56) (F 57) (F 58) (F 59) (n 9) (n 11) (n 12) (n 44) (n 45) (n 46) (n 47) (n 48)) ∧ nx U)) (va_Qv (fun (u : (Nat → Nat → Int32) × (Nat → Int32)) => (n 11).toInt ≤ (u.2 11).toInt) (fun u t => va_P (dC, dI) vwCl (w10 h0 X C (u.1 0) (u.1 1) (u.1 2) (u.1 3) (u.1 4) (u.1 5) (u.1 6) (u.1 7) (u.1 8) (u.1 10) (u.1 13) (u.1 14) (u.1 15) (u.1 16) (u.1 17) (u.1 18) (u.1 19) (u.1 20) (u.1 21) (u.1 22) (u.1 23) (u.1 24) (u.1 25) (u.1 26) (u.1 27) (u.1 28) (u.1 29) (u.1 30) (u.1 31) (u.1 32) (u.1 33) (u.1 34) (u.1 35) (u.1 36) (u.1 37) (u.1 38) (u.1 39) (u.1 40) (u.1 41) (u.1 42) (u.1 43) (u.1 49) (u.1 50) (u.1 51) (u.1 52) (u.1 53) (u.1 54) (u.1 55) (u.1 56) (u.1 57) (u.1 58) (u.1 59) (u.2 9) (u.2 11) (u.2 12) (u.2 44) (u.2 45) (u.2 46) (u.2 47) (u.2 48)) t.heap ∧ va_D (va_A (w10 h0 X C (F 0) (F 1) (F 2) (F 3) (F 4) (F 5) (F 6) (F 7) (F 8) (F 10) (F 13) (F 14) (F 15) (F 16) (F 17) (F 18) (F 19) (F 20) (F 21) (F 22) (F 23) (F 24) (F 25) (F 26) (F 27) (F 28) (F 29) (F 30) (F 31) (F 32) (F 33) (F 34) (F 35) (F 36) (F 37) (F 38) (F 39) (F 40) (F 41) (F 42) (F 43) (F 49) (F 50) (F 51) (F 52) (F 53) (F 54) (F 55) (F 56) (F 57) (F 58) (F 59) (n 9) (n 11) (n 12) (n 44) (n 45) (n 46) (n 47) (n 48)) sz) (w10 h0 X C (u.1 0) (u.1 1) (u.1 2) (u.1 3) (u.1 4) (u.1 5) (u.1 6) (u.1 7) (u.1 8) (u.1 10) (u.1 13) (u.1 14) (u.1 15) (u.1 16) (u.1 17) (u.1 18) (u.1 19) (u.1 20) (u.1 21) (u.1 22) (u.1 23) (u.1 24) (u.1 25) (u.1 26) (u.1 27) (u.1 28) (u.1 29) (u.1 30) (u.1 31) (u.1 32) (u.1 33) (u.1 34) (u.1 35) (u.1 36) (u.1 37) (u.1 38) (u.1 39) (u.1 40) (u.1 41) (u.1 42) (u.1 43) (u.1 49) (u.1 50) (u.1 51) (u.1 52) (u.1 53) (u.1 54) (u.1 55) (u.1 56) (u.1 57) (u.1 58) (u.1 59) (u.2 9) (u.2 11) (u.2 12) (u.2 44) (u.2 45) (u.2 46) (u.2 47) (u.2 48)) ∧ I10 (kp + 1) u.1 u.2) (va_A (w10 h0 X C (F 0) (F 1) (F 2) (F 3) (F 4) (F 5) (F 6) (F 7) (F 8) (F 10) (F 13) (F 14) (F 15) (F 16) (F 17) (F 18) (F 19) (F 20) (F 21) (F 22) (F 23) (F 24) (F 25) (F 26) (F 27) (F 28) (F 29) (F 30) (F 31) (F 32) (F 33) (F 34) (F 35) (F 36) (F 37) (F 38) (F 39) (F 40) (F 41) (F 42) (F 43) (F 49) (F 50) (F 51) (F 52) (F 53) (F 54) (F 55) (F 56) (F 57) (F 58) (F 59) (n 9) (n 11) (n 12) (n 44) (n 45) (n 46) (n 47) (n 48)) sz)) 0 0 (va_A (w10 h0 X C (F 0) (F 1) (F 2) (F 3) (F 4) (F 5) (F 6) (F 7) (F 8) (F 10) (F 13) (F 14) (F 15) (F 16) (F 17) (F 18) (F 19) (F 20) (F 21) (F 22) (F 23) (F 24) (F 25) (F 26) (F 27) (F 28) (F 29) (F 30) (F 31) (F 32) (F 33) (F 34) (F 35) (F 36) (F 37) (F 38) (F 39) (F 40) (F 41) (F 42) (F 43) (F 49) (F 50) (F 51) (F 52) (F 53) (F 54) (F 55) (F 56) (F 57) (F 58) (F 59) (n 9) (n 11) (n 12) (n 44) (n 45) (n 46) (n 47) (n 48)) sz) := by
  refine Met.ofW (cc := cX10_does) (maxL := 7) (ret := none) (by decide) rfl ?_
  intro p e s m args below meth c s₁ B hml hv
  obtain ⟨rfl, hsz, hP, hK, hD0, hN⟩ := hv
  have hx := B.exec
  have hb := B.bytes
  have hr := B.returns
  have hts := atoms_spec (ws := .code yX10_does cX10_does 7 none :: gw) B.pre
  have hg : ∀ w ∈ gw, w.before _ s = true := fun w h => hts w (List.mem_cons_of_mem _ h)
  have hown : s.vm.findClass RX10 = some m.cls := findClass_of_methodNamed B.named
  have hlocks := B.notSynchronized
  subst hsz
  have hD := hD0.self (sz := s.heap.size)
  generalize hAe : va_A (w10 h0 X C (F 0) (F 1) (F 2) (F 3) (F 4) (F 5) (F 6) (F 7) (F 8) (F 10) (F 13) (F 14) (F 15) (F 16) (F 17) (F 18) (F 19) (F 20) (F 21) (F 22) (F 23) (F 24) (F 25) (F 26) (F 27) (F 28) (F 29) (F 30) (F 31) (F 32) (F 33) (F 34) (F 35) (F 36) (F 37) (F 38) (F 39) (F 40) (F 41) (F 42) (F 43) (F 49) (F 50) (F 51) (F 52) (F 53) (F 54) (F 55) (F 56) (F 57) (F 58) (F 59) (n 9) (n 11) (n 12) (n 44) (n 45) (n 46) (n 47) (n 48)) s.heap.size = A at hD ⊢
  have hA : ∀ q : Nat, s.heap.size ≤ q → A q := fun q h => by rw [← hAe]; exact Or.inr h
  have hS : va_S A s.heap s.heap [] := va_S.rf
  have hP : va_P (dC, dI) vwCl (w10 h0 X C (F 0) (F 1) (F 2) (F 3) (F 4) (F 5) (F 6) (F 7) (F 8) (F 10) (F 13) (F 14) (F 15) (F 16) (F 17) (F 18) (F 19) (F 20) (F 21) (F 22) (F 23) (F 24) (F 25) (F 26) (F 27) (F 28) (F 29) (F 30) (F 31) (F 32) (F 33) (F 34) (F 35) (F 36) (F 37) (F 38) (F 39) (F 40) (F 41) (F 42) (F 43) (F 49) (F 50) (F 51) (F 52) (F 53) (F 54) (F 55) (F 56) (F 57) (F 58) (F 59) (n 9) (n 11) (n 12) (n 44) (n 45) (n 46) (n 47) (n 48)) s.heap := hP
  have hl := lv_entry ([.ref h0, .int v1]) (n := 7) (Nat.le_of_ble_eq_true rfl)
  rw [lg_entry_eq]
  generalize (lg_sl ([.ref h0, .int v1]) ++ List.replicate (7 - (lg_sl ([.ref h0, .int v1])).length) Slot.unset).toArray = ls at hl ⊢
  have hl : lv_has ls 7 [(0, .ref h0), (1, .int v1)] := hl
  obtain ⟨b_1, b_2, b_3, b_4, b_5, b_6, b_7, b_8, b_9, b_10, b_11, b_12, i_13, i_14, i_15, i_16, i_17, i_18, i_19, j_20, j_21, j_22, j_23, j_24, j_25, j_26, j_27, j_28, j_29⟩ := id hI
  have p20 := b_8 (Int32.toNatClampNeg v1)
  have p39 := b_11 (Int32.toNatClampNeg v1)
  have p36 := b_10 (Int32.toNatClampNeg v1)
  have jj2 := j_22 (Int32.toNatClampNeg v1)
  have jj3 := j_23 (Int32.toNatClampNeg v1)
  have ce1 := cl_eq v1
  refine lv_bipush (v := 24) hx hb dX10_does_0 (by decide) ?_
  refine lv_aload_n hx hb dX10_does_2 rfl (lv_at hl 0 rfl) ?_
  refine va_get (D := (dC, dI)) (ci := 10) (v := .ref (X 14)) (C := RX10) (T := TX10) (N := 60) hx hb hg gb_10 hown hK hP 0 rfl rfl 14 (by decide) (hg _ gm_fieldLink_RX10_48_ErrandGuildModel_errand_AI_) (fun _ h9 => h9) rfl dX10_does_3 ?_
  refine lv_iload_n hx hb dX10_does_6 rfl (lv_at hl 1 rfl) ?_
  refine va_iald (f := F 14) hx hb hK hP 12 11 rfl rfl (vp_in_iff.mpr ⟨by omega, by omega⟩) dX10_does_7 ?_
  refine lv_topi (fun z_30 ez_30 => ?_)
  have qz_30 := congrArg Int32.toInt ez_30
  have bz_30 := bd_at b_4 ez_30
  refine lv_imul hx hb dX10_does_8 ?_
  refine lv_topi (fun z_31 ez_31 => ?_)
  have tz_31 : z_31.toInt = 24 * z_30.toInt := ar_mul ti_24 rfl ez_31 (by omega)
  refine lv_aload_n hx hb dX10_does_9 rfl (lv_at hl 0 rfl) ?_
  refine va_get (D := (dC, dI)) (ci := 10) (v := .ref (X 20)) (C := RX10) (T := TX10) (N := 60) hx hb hg gb_10 hown hK hP 0 rfl rfl 20 (by decide) (hg _ gm_fieldLink_RX10_66_ErrandGuildModel_place_AI_) (fun _ h9 => h9) rfl dX10_does_10 ?_
  refine lv_iload_n hx hb dX10_does_13 rfl (lv_at hl 1 rfl) ?_
  refine va_iald (f := F 20) hx hb hK hP 18 17 rfl rfl (vp_in_iff.mpr ⟨by omega, by omega⟩) dX10_does_14 ?_
  refine lv_topi (fun z_32 ez_32 => ?_)
  have qz_32 := congrArg Int32.toInt ez_32
  have bz_32 := bd_at b_8 ez_32
  refine lv_iadd hx hb dX10_does_15 ?_
  refine lv_topi (fun z_33 ez_33 => ?_)
  have tz_33 : z_33.toInt = z_31.toInt + z_32.toInt := ar_add rfl rfl ez_33 (by omega)
  refine lv_istore_n (lv' := [(2, .int z_33), (0, .ref h0), (1, .int v1)]) hx hb dX10_does_16 rfl hl (by decide) rfl (fun ls hl => ?_)
  refine lv_aload_n hx hb dX10_does_17 rfl (lv_at hl 1 rfl) ?_
  refine va_get (D := (dC, dI)) (ci := 10) (v := .ref (X 20)) (C := RX10) (T := TX10) (N := 60) hx hb hg gb_10 hown hK hP 0 rfl rfl 20 (by decide) (hg _ gm_fieldLink_RX10_66_ErrandGuildModel_place_AI_) (fun _ h9 => h9) rfl dX10_does_18 ?_
  refine lv_iload_n hx hb dX10_does_21 rfl (lv_at hl 2 rfl) ?_
  refine va_iald (f := F 20) hx hb hK hP 18 17 rfl rfl (vp_in_iff.mpr ⟨by omega, by omega⟩) dX10_does_22 ?_
  refine lv_topi (fun z_34 ez_34 => ?_)
  obtain rfl : z_32 = z_34 := ez_32.trans ez_34.symm
  refine lv_aload_n hx hb dX10_does_23 rfl (lv_at hl 1 rfl) ?_
  refine va_get (D := (dC, dI)) (ci := 10) (v := .ref (X 2)) (C := RX10) (T := TX10) (N := 60) hx hb hg gb_10 hown hK hP 0 rfl rfl 2 (by decide) (hg _ gm_fieldLink_RX10_16_ErrandGuildModel_stepMany_AI_) (fun _ h9 => h9) rfl dX10_does_24 ?_
  refine lv_aload_n hx hb dX10_does_27 rfl (lv_at hl 1 rfl) ?_
  refine va_get (D := (dC, dI)) (ci := 10) (v := .ref (X 14)) (C := RX10) (T := TX10) (N := 60) hx hb hg gb_10 hown hK hP 0 rfl rfl 14 (by decide) (hg _ gm_fieldLink_RX10_48_ErrandGuildModel_errand_AI_) (fun _ h9 => h9) rfl dX10_does_28 ?_
  refine lv_iload_n hx hb dX10_does_31 rfl (lv_at hl 2 rfl) ?_
  refine va_iald (f := F 14) hx hb hK hP 12 11 rfl rfl (vp_in_iff.mpr ⟨by omega, by omega⟩) dX10_does_32 ?_
  refine lv_topi (fun z_35 ez_35 => ?_)
  obtain rfl : z_30 = z_35 := ez_30.trans ez_35.symm
  refine va_iald (f := F 2) hx hb hK hP 3 2 rfl rfl (vp_in_iff.mpr ⟨by omega, by omega⟩) dX10_does_33 ?_
  refine lv_topi (fun z_36 ez_36 => ?_)
  have qz_36 := congrArg Int32.toInt ez_36
  have bz_36 := bd_at b_1 ez_36
  refine lv_icmp_ge (tgt := 48) hx hb dX10_does_34 (by decide) (fun c_37 => ?_) (fun c_37 => ?_)
  · simp only [i_lt, i_le, i_eq] at c_37
    refine lv_aload_n hx hb dX10_does_48 rfl (lv_at hl 1 rfl) ?_
    refine lv_iload_n hx hb dX10_does_49 rfl (lv_at hl 2 rfl) ?_
    refine lv_iconst (v := 3) hx hb dX10_does_50 (by decide) ?_
    have hFc := free_all hD hS hA
    refine va_callv (va_runV (As := [.int v1, .int 3]) (rest := []) ⟨hx, hb, hml, hown, hg⟩ (c_X10_goes l dC dI kp h0 X C F n v1 3 s.heap.size ⟨b_1, b_2, b_3, b_4, b_5, b_6, b_7, b_8, b_9, b_10, b_11, b_12, i_13, i_14, i_15, i_16, i_17, i_18, i_19, j_20, j_21, j_22, j_23, j_24, j_25, j_26, j_27, j_28, j_29⟩ (by have t_0 := ti_3; omega) (by have t_0 := ti_3; show v1.toInt < ((n 11)).toInt; omega) (by have t_0 := ti_3; show ((F 13) (Int32.toNatClampNeg v1)).toInt = 1; omega) (by have t_0 := ti_3; omega)) (cwV 2 hg (gw_V gm_methodLink_RX10_221_yX10_goes gm_instanceMethod_yX10_goes gm_selects_RX10_yX10_goes_yX10_goes gm_initialized_RX10 gm_code_yX10_goes_cX10_goes_4_none) rfl rfl rfl (by decide +kernel) ⟨Nat.le_of_ble_eq_true rfl, Nat.le_of_ble_eq_true rfl⟩) ⟨fun a U g mk q => by obtain ⟨q0, q1, qP, qK, qD, qN⟩ := q; exact ⟨q0, q1, qP, va_K.moved (u := U) (U := U.calling g mk a) (Vm.Alike.refl U.vm) qK, qD, nx_same (u := U) (U := U.calling g mk a) rfl qN⟩, va_recv hK hP (ci := 10) (q0 := 0) rfl rfl, fun U hU hW => ⟨rfl, by rw [hU], by rw [hU]; exact hP, va_K.moved hW.alike hK, hD.weaken (fun _ _ _ _ => trivial), nx_warm hW hN⟩⟩ rfl rfl hl.1 rfl (lv_room (Nat.le_of_ble_eq_true rfl)) dX10_does_51 ⟨Nat.le_of_ble_eq_true rfl, Nat.le_of_ble_eq_true rfl⟩) hS (fun q _ h => hFc q h) hFc (fun u_39 t H1 locs ht hvm hw hB hz1 hk1 hS => ?_)
    obtain ⟨F_40, n_41⟩ := u_39
    obtain ⟨hP, hD, hI_42⟩ := hB
    have hI_42 : I10 kp F_40 n_41 := hI_42
    obtain ⟨b_43, b_44, b_45, b_46, b_47, b_48, b_49, b_50, b_51, b_52, b_53, b_54, i_55, i_56, i_57, i_58, i_59, i_60, i_61, j_62, j_63, j_64, j_65, j_66, j_67, j_68, j_69, j_70, j_71⟩ := id hI_42
    rw [ht] at hP
    have hD := hD.weaken (fun k q _ h => hFc _ h)
    generalize H1 = H at hP hS ⊢
    have hP : va_P (dC, dI) vwCl (w10 h0 X C (F_40 0) (F_40 1) (F_40 2) (F_40 3) (F_40 4) (F_40 5) (F_40 6) (F_40 7) (F_40 8) (F_40 10) (F_40 13) (F_40 14) (F_40 15) (F_40 16) (F_40 17) (F_40 18) (F_40 19) (F_40 20) (F_40 21) (F_40 22) (F_40 23) (F_40 24) (F_40 25) (F_40 26) (F_40 27) (F_40 28) (F_40 29) (F_40 30) (F_40 31) (F_40 32) (F_40 33) (F_40 34) (F_40 35) (F_40 36) (F_40 37) (F_40 38) (F_40 39) (F_40 40) (F_40 41) (F_40 42) (F_40 43) (F_40 49) (F_40 50) (F_40 51) (F_40 52) (F_40 53) (F_40 54) (F_40 55) (F_40 56) (F_40 57) (F_40 58) (F_40 59) (n_41 9) (n_41 11) (n_41 12) (n_41 44) (n_41 45) (n_41 46) (n_41 47) (n_41 48)) H := hP
    have hD : va_D A (w10 h0 X C (F_40 0) (F_40 1) (F_40 2) (F_40 3) (F_40 4) (F_40 5) (F_40 6) (F_40 7) (F_40 8) (F_40 10) (F_40 13) (F_40 14) (F_40 15) (F_40 16) (F_40 17) (F_40 18) (F_40 19) (F_40 20) (F_40 21) (F_40 22) (F_40 23) (F_40 24) (F_40 25) (F_40 26) (F_40 27) (F_40 28) (F_40 29) (F_40 30) (F_40 31) (F_40 32) (F_40 33) (F_40 34) (F_40 35) (F_40 36) (F_40 37) (F_40 38) (F_40 39) (F_40 40) (F_40 41) (F_40 42) (F_40 43) (F_40 49) (F_40 50) (F_40 51) (F_40 52) (F_40 53) (F_40 54) (F_40 55) (F_40 56) (F_40 57) (F_40 58) (F_40 59) (n_41 9) (n_41 11) (n_41 12) (n_41 44) (n_41 45) (n_41 46) (n_41 47) (n_41 48)) := hD
    have w_72 : ((n 11)).toInt ≤ (n_41 11).toInt := hw
    try simp only [upd_eq] at w_72
    exact W.vret hx hb hr (fun t ht hW => ⟨⟨(F_40, n_41), rfl, (by show (n 11).toInt ≤ ((n_41 11)).toInt; omega), by rw [ht]; exact hP, hD, I10_mono (k := kp) ⟨b_43, b_44, b_45, b_46, b_47, b_48, b_49, b_50, b_51, b_52, b_53, b_54, i_55, i_56, i_57, i_58, i_59, i_60, i_61, j_62, j_63, j_64, j_65, j_66, j_67, j_68, j_69, j_70, j_71⟩ (by omega)⟩, hS.F ht⟩) hS.2.2 dX10_does_54
  · simp only [i_lt, i_le, i_eq] at c_37
    refine lv_aload_n hx hb dX10_does_37 rfl (lv_at hl 1 rfl) ?_
    refine va_get (D := (dC, dI)) (ci := 10) (v := .ref (X 3)) (C := RX10) (T := TX10) (N := 60) hx hb hg gb_10 hown hK hP 0 rfl rfl 3 (by decide) (hg _ gm_fieldLink_RX10_19_ErrandGuildModel_op_AI_) (fun _ h9 => h9) rfl dX10_does_38 ?_
    refine lv_iload_n hx hb dX10_does_41 rfl (lv_at hl 0 rfl) ?_
    refine va_iald (f := F 3) hx hb hK hP 4 3 rfl rfl (vp_in_iff.mpr ⟨by omega, by omega⟩) dX10_does_42 ?_
    refine lv_topi (fun z_73 ez_73 => ?_)
    have qz_73 := congrArg Int32.toInt ez_73
    have bz_73 := bd_at b_2 ez_73
    refine lv_bipush (v := 12) hx hb dX10_does_43 (by decide) ?_
    refine lv_icmp_ne (tgt := 55) hx hb dX10_does_45 (by decide) (fun c_74 => ?_) (fun c_74 => ?_)
    · simp only [i_lt, i_le, i_eq, ti_12] at c_74
      refine lv_aload_n hx hb dX10_does_55 rfl (lv_at hl 1 rfl) ?_
      refine va_get (D := (dC, dI)) (ci := 10) (v := .ref (X 4)) (C := RX10) (T := TX10) (N := 60) hx hb hg gb_10 hown hK hP 0 rfl rfl 4 (by decide) (hg _ gm_fieldLink_RX10_22_ErrandGuildModel_opA_AI_) (fun _ h9 => h9) rfl dX10_does_56 ?_
      refine lv_iload_n hx hb dX10_does_59 rfl (lv_at hl 0 rfl) ?_
      refine va_iald (f := F 4) hx hb hK hP 5 4 rfl rfl (vp_in_iff.mpr ⟨by omega, by omega⟩) dX10_does_60 ?_
      refine lv_topi (fun z_75 ez_75 => ?_)
      have qz_75 := congrArg Int32.toInt ez_75
      refine lv_istore_n (lv' := [(3, .int z_75), (2, .int z_33), (0, .ref h0), (1, .int v1)]) hx hb dX10_does_61 rfl hl (by decide) rfl (fun ls hl => ?_)
      refine lv_aload_n hx hb dX10_does_62 rfl (lv_at hl 2 rfl) ?_
      refine va_get (D := (dC, dI)) (ci := 10) (v := .ref (X 5)) (C := RX10) (T := TX10) (N := 60) hx hb hg gb_10 hown hK hP 0 rfl rfl 5 (by decide) (hg _ gm_fieldLink_RX10_25_ErrandGuildModel_opB_AI_) (fun _ h9 => h9) rfl dX10_does_63 ?_
      refine lv_iload_n hx hb dX10_does_66 rfl (lv_at hl 1 rfl) ?_
      refine va_iald (f := F 5) hx hb hK hP 6 5 rfl rfl (vp_in_iff.mpr ⟨by omega, by omega⟩) dX10_does_67 ?_
      refine lv_topi (fun z_76 ez_76 => ?_)
      have qz_76 := congrArg Int32.toInt ez_76
      refine lv_istore (lv' := [(4, .int z_76), (3, .int z_75), (2, .int z_33), (0, .ref h0), (1, .int v1)]) hx hb dX10_does_68 hl (by decide) rfl (fun ls hl => ?_)
      refine lv_iconst (v := 1) hx hb dX10_does_70 (by decide) ?_
      refine lv_istore (lv' := [(5, .int 1), (4, .int z_76), (3, .int z_75), (2, .int z_33), (0, .ref h0), (1, .int v1)]) hx hb dX10_does_71 hl (by decide) rfl (fun ls hl => ?_)
      refine lv_aload_n hx hb dX10_does_73 rfl (lv_at hl 4 rfl) ?_
      refine va_get (D := (dC, dI)) (ci := 10) (v := .ref (X 3)) (C := RX10) (T := TX10) (N := 60) hx hb hg gb_10 hown hK hP 0 rfl rfl 3 (by decide) (hg _ gm_fieldLink_RX10_19_ErrandGuildModel_op_AI_) (fun _ h9 => h9) rfl dX10_does_74 ?_
      refine lv_iload_n hx hb dX10_does_77 rfl (lv_at hl 3 rfl) ?_
      refine va_iald (f := F 3) hx hb hK hP 4 3 rfl rfl (vp_in_iff.mpr ⟨by omega, by omega⟩) dX10_does_78 ?_
      refine lv_topi (fun z_77 ez_77 => ?_)
      obtain rfl : z_73 = z_77 := ez_73.trans ez_77.symm
      have j0i := j_20 (Int32.toNatClampNeg z_33)
      have ci2 := cl_eq z_33
      rcases (show (z_73.toInt < 0 ∨ 10 < z_73.toInt) ∨ z_73.toInt = 0 ∨ z_73.toInt = 1 ∨ z_73.toInt = 2 ∨ z_73.toInt = 3 ∨ z_73.toInt = 4 ∨ z_73.toInt = 5 ∨ z_73.toInt = 6 ∨ z_73.toInt = 7 ∨ z_73.toInt = 8 ∨ z_73.toInt = 9 ∨ z_73.toInt = 10 by omega) with sw_78 | sw_78 | sw_78 | sw_78 | sw_78 | sw_78 | sw_78 | sw_78 | sw_78 | sw_78 | sw_78 | sw_78
      · refine lv_tableOut (tgt := 469) hx hb dX10_does_79 sw_78 (by decide) ?_
        refine lv_aload_n hx hb dX10_does_469 rfl (lv_at hl 4 rfl) ?_
        refine va_get (D := (dC, dI)) (ci := 10) (v := .ref (X 19)) (C := RX10) (T := TX10) (N := 60) hx hb hg gb_10 hown hK hP 0 rfl rfl 19 (by decide) (hg _ gm_fieldLink_RX10_63_ErrandGuildModel_sum_AI_) (fun _ h9 => h9) rfl dX10_does_470 ?_
        refine lv_iload_n hx hb dX10_does_473 rfl (lv_at hl 5 rfl) ?_
        refine lv_aload_n hx hb dX10_does_474 rfl (lv_at hl 4 rfl) ?_
        refine va_get (D := (dC, dI)) (ci := 10) (v := .ref (X 19)) (C := RX10) (T := TX10) (N := 60) hx hb hg gb_10 hown hK hP 0 rfl rfl 19 (by decide) (hg _ gm_fieldLink_RX10_63_ErrandGuildModel_sum_AI_) (fun _ h9 => h9) rfl dX10_does_475 ?_
        refine lv_iload_n hx hb dX10_does_478 rfl (lv_at hl 5 rfl) ?_
        refine va_iald (f := F 19) hx hb hK hP 17 16 rfl rfl (vp_in_iff.mpr ⟨by omega, by omega⟩) dX10_does_479 ?_
        refine lv_topi (fun z_79 ez_79 => ?_)
        have qz_79 := congrArg Int32.toInt ez_79
        refine lv_iload hx hb dX10_does_480 (lv_at hl 1 rfl) ?_
        refine lv_iadd hx hb dX10_does_482 ?_
        refine lv_topi (fun z_80 ez_80 => ?_)
        refine va_iast (f := F 19) hx hb hK hP hD hS 17 16 rfl rfl (vp_in_iff.mpr ⟨by omega, by omega⟩) dX10_does_483 (fun H locs hP hD hS => ?_)
        have hP : va_P (dC, dI) vwCl (w10 h0 X C (F 0) (F 1) (F 2) (F 3) (F 4) (F 5) (F 6) (F 7) (F 8) (F 10) (F 13) (F 14) (F 15) (F 16) (F 17) (F 18) (upd (F 19) (Int32.toNatClampNeg v1) z_80) (F 20) (F 21) (F 22) (F 23) (F 24) (F 25) (F 26) (F 27) (F 28) (F 29) (F 30) (F 31) (F 32) (F 33) (F 34) (F 35) (F 36) (F 37) (F 38) (F 39) (F 40) (F 41) (F 42) (F 43) (F 49) (F 50) (F 51) (F 52) (F 53) (F 54) (F 55) (F 56) (F 57) (F 58) (F 59) (n 9) (n 11) (n 12) (n 44) (n 45) (n 46) (n 47) (n 48)) H := hP
        have hD : va_D A (w10 h0 X C (F 0) (F 1) (F 2) (F 3) (F 4) (F 5) (F 6) (F 7) (F 8) (F 10) (F 13) (F 14) (F 15) (F 16) (F 17) (F 18) (upd (F 19) (Int32.toNatClampNeg v1) z_80) (F 20) (F 21) (F 22) (F 23) (F 24) (F 25) (F 26) (F 27) (F 28) (F 29) (F 30) (F 31) (F 32) (F 33) (F 34) (F 35) (F 36) (F 37) (F 38) (F 39) (F 40) (F 41) (F 42) (F 43) (F 49) (F 50) (F 51) (F 52) (F 53) (F 54) (F 55) (F 56) (F 57) (F 58) (F 59) (n 9) (n 11) (n 12) (n 44) (n 45) (n 46) (n 47) (n 48)) := hD
        refine lv_iload hx hb dX10_does_484 (lv_at hl 0 rfl) ?_
        refine lv_if_eq (tgt := 506) hx hb dX10_does_486 (by decide) (fun c_81 => absurd c_81 (by decide)) (fun _ => ?_)
        refine lv_aload_n hx hb dX10_does_489 rfl (lv_at hl 4 rfl) ?_
        refine va_get (D := (dC, dI)) (ci := 10) (v := .ref (X 20)) (C := RX10) (T := TX10) (N := 60) hx hb hg gb_10 hown hK hP 0 rfl rfl 20 (by decide) (hg _ gm_fieldLink_RX10_66_ErrandGuildModel_place_AI_) (fun _ h9 => h9) rfl dX10_does_490 ?_
        refine lv_iload_n hx hb dX10_does_493 rfl (lv_at hl 5 rfl) ?_
        refine lv_aload_n hx hb dX10_does_494 rfl (lv_at hl 4 rfl) ?_
        refine va_get (D := (dC, dI)) (ci := 10) (v := .ref (X 20)) (C := RX10) (T := TX10) (N := 60) hx hb hg gb_10 hown hK hP 0 rfl rfl 20 (by decide) (hg _ gm_fieldLink_RX10_66_ErrandGuildModel_place_AI_) (fun _ h9 => h9) rfl dX10_does_495 ?_
        refine lv_iload_n hx hb dX10_does_498 rfl (lv_at hl 5 rfl) ?_
        refine va_iald (f := F 20) hx hb hK hP 18 17 rfl rfl (vp_in_iff.mpr ⟨by omega, by omega⟩) dX10_does_499 ?_
        refine lv_topi (fun z_82 ez_82 => ?_)
        obtain rfl : z_32 = z_82 := ez_32.trans ez_82.symm
        refine lv_iconst (v := 1) hx hb dX10_does_500 (by decide) ?_
        refine lv_iadd hx hb dX10_does_501 ?_
        refine lv_topi (fun z_83 ez_83 => ?_)
        have tz_83 : z_83.toInt = z_32.toInt + 1 := ar_add rfl ti_1 ez_83 (by omega)
        refine va_iast (f := F 20) hx hb hK hP hD hS 18 17 rfl rfl (vp_in_iff.mpr ⟨by omega, by omega⟩) dX10_does_502 (fun H locs hP hD hS => ?_)
        have hP : va_P (dC, dI) vwCl (w10 h0 X C (F 0) (F 1) (F 2) (F 3) (F 4) (F 5) (F 6) (F 7) (F 8) (F 10) (F 13) (F 14) (F 15) (F 16) (F 17) (F 18) (upd (F 19) (Int32.toNatClampNeg v1) z_80) (upd (F 20) (Int32.toNatClampNeg v1) z_83) (F 21) (F 22) (F 23) (F 24) (F 25) (F 26) (F 27) (F 28) (F 29) (F 30) (F 31) (F 32) (F 33) (F 34) (F 35) (F 36) (F 37) (F 38) (F 39) (F 40) (F 41) (F 42) (F 43) (F 49) (F 50) (F 51) (F 52) (F 53) (F 54) (F 55) (F 56) (F 57) (F 58) (F 59) (n 9) (n 11) (n 12) (n 44) (n 45) (n 46) (n 47) (n 48)) H := hP
        have hD : va_D A (w10 h0 X C (F 0) (F 1) (F 2) (F 3) (F 4) (F 5) (F 6) (F 7) (F 8) (F 10) (F 13) (F 14) (F 15) (F 16) (F 17) (F 18) (upd (F 19) (Int32.toNatClampNeg v1) z_80) (upd (F 20) (Int32.toNatClampNeg v1) z_83) (F 21) (F 22) (F 23) (F 24) (F 25) (F 26) (F 27) (F 28) (F 29) (F 30) (F 31) (F 32) (F 33) (F 34) (F 35) (F 36) (F 37) (F 38) (F 39) (F 40) (F 41) (F 42) (F 43) (F 49) (F 50) (F 51) (F 52) (F 53) (F 54) (F 55) (F 56) (F 57) (F 58) (F 59) (n 9) (n 11) (n 12) (n 44) (n 45) (n 46) (n 47) (n 48)) := hD
        have b_84 := bd_upd b_8 (Int32.toNatClampNeg v1) (x := z_83) (by omega) (by omega)
        have j_85 : J2 (F 39) (upd (F 20) (Int32.toNatClampNeg v1) z_83) := J2_pl j_22 (Int32.toNatClampNeg v1) (by have h_ := j_22 (Int32.toNatClampNeg v1); omega)
        have j_86 : J2 (F 36) (upd (F 20) (Int32.toNatClampNeg v1) z_83) := J2_pl j_23 (Int32.toNatClampNeg v1) (by have h_ := j_23 (Int32.toNatClampNeg v1); omega)
        have j_87 : J7 (F 24) (upd (F 20) (Int32.toNatClampNeg v1) z_83) := J7_pl j_27 (Int32.toNatClampNeg v1) (Or.inl (by omega))
        refine lv_goto (tgt := 514) hx hb dX10_does_503 (by decide) ?_
        exact W.vret hx hb hr (fun t ht hW => ⟨⟨((fun k => ([F 0, F 1, F 2, F 3, F 4, F 5, F 6, F 7, F 8, (fun _ => 0), F 10, (fun _ => 0), (fun _ => 0), F 13, F 14, F 15, F 16, F 17, F 18, upd (F 19) (Int32.toNatClampNeg v1) z_80, upd (F 20) (Int32.toNatClampNeg v1) z_83, F 21, F 22, F 23, F 24, F 25, F 26, F 27, F 28, F 29, F 30, F 31, F 32, F 33, F 34, F 35, F 36, F 37, F 38, F 39, F 40, F 41, F 42, F 43, (fun _ => 0), (fun _ => 0), (fun _ => 0), (fun _ => 0), (fun _ => 0), F 49, F 50, F 51, F 52, F 53, F 54, F 55, F 56, F 57, F 58, F 59] : List (Nat → Int32)).getD k (fun _ => 0)), n), rfl, (Int.le_refl _), by rw [ht]; exact hP, hD, I10_mono (k := kp) ⟨b_1, b_2, b_3, b_4, b_5, b_6, b_7, b_84, b_9, b_10, b_11, b_12, i_13, i_14, i_15, i_16, i_17, i_18, i_19, j_20, j_21, j_85, j_86, j_24, j_25, j_26, j_87, j_28, j_29⟩ (by omega)⟩, hS.F ht⟩) hS.2.2 dX10_does_514
      · refine lv_tableIn (tgt := 136) hx hb dX10_does_79 (by omega) (by omega) (by rw [sw_78]; rfl) (by decide) ?_
        refine lv_aload_n hx hb dX10_does_136 rfl (lv_at hl 4 rfl) ?_
        refine lv_iload_n hx hb dX10_does_137 rfl (lv_at hl 5 rfl) ?_
        refine lv_iload_n hx hb dX10_does_138 rfl (lv_at hl 2 rfl) ?_
        refine lv_iload hx hb dX10_does_139 (lv_at hl 1 rfl) ?_
        have hFc := free_all hD hS hA
        refine va_calli (va_runV (As := [.int v1, .int z_75, .int z_76]) (rest := []) ⟨hx, hb, hml, hown, hg⟩ (c_X10_writes l dC dI kp h0 X C F n v1 z_75 z_76 s.heap.size ⟨b_1, b_2, b_3, b_4, b_5, b_6, b_7, b_8, b_9, b_10, b_11, b_12, i_13, i_14, i_15, i_16, i_17, i_18, i_19, j_20, j_21, j_22, j_23, j_24, j_25, j_26, j_27, j_28, j_29⟩ (by omega) (by omega)) (cwV 3 hg (gw_V gm_methodLink_RX10_229_yX10_writes gm_instanceMethod_yX10_writes gm_selects_RX10_yX10_writes_yX10_writes gm_initialized_RX10 gm_code_yX10_writes_cX10_writes_5_some_boolean_) rfl rfl rfl (by decide +kernel) ⟨Nat.le_of_ble_eq_true rfl, Nat.le_of_ble_eq_true rfl⟩) ⟨fun a U g mk q => by obtain ⟨q0, q1, qP, qK, qD, qN⟩ := q; exact ⟨q0, q1, qP, va_K.moved (u := U) (U := U.calling g mk a) (Vm.Alike.refl U.vm) qK, qD, nx_same (u := U) (U := U.calling g mk a) rfl qN⟩, va_recv hK hP (ci := 10) (q0 := 0) rfl rfl, fun U hU hW => ⟨rfl, by rw [hU], by rw [hU]; exact hP, va_K.moved hW.alike hK, hD.weaken (fun _ _ _ _ => trivial), nx_warm hW hN⟩⟩ rfl rfl hl.1 rfl (lv_room (Nat.le_of_ble_eq_true rfl)) dX10_does_141 ⟨Nat.le_of_ble_eq_true rfl, Nat.le_of_ble_eq_true rfl⟩) hS (fun q _ h => hFc q h) hFc (fun r_88 u_89 t H1 locs ht hvm hw hB hz1 hk1 hS => ?_)
        obtain ⟨F_90, n_91⟩ := u_89
        obtain ⟨hP, hD, hI_92⟩ := hB
        have hI_92 : I10 kp F_90 n_91 := hI_92
        obtain ⟨b_93, b_94, b_95, b_96, b_97, b_98, b_99, b_100, b_101, b_102, b_103, b_104, i_105, i_106, i_107, i_108, i_109, i_110, i_111, j_112, j_113, j_114, j_115, j_116, j_117, j_118, j_119, j_120, j_121⟩ := id hI_92
        rw [ht] at hP
        have hD := hD.weaken (fun k q _ h => hFc _ h)
        generalize H1 = H at hP hS ⊢
        have hP : va_P (dC, dI) vwCl (w10 h0 X C (F_90 0) (F_90 1) (F_90 2) (F_90 3) (F_90 4) (F_90 5) (F_90 6) (F_90 7) (F_90 8) (F_90 10) (F_90 13) (F_90 14) (F_90 15) (F_90 16) (F_90 17) (F_90 18) (F_90 19) (F_90 20) (F_90 21) (F_90 22) (F_90 23) (F_90 24) (F_90 25) (F_90 26) (F_90 27) (F_90 28) (F_90 29) (F_90 30) (F_90 31) (F_90 32) (F_90 33) (F_90 34) (F_90 35) (F_90 36) (F_90 37) (F_90 38) (F_90 39) (F_90 40) (F_90 41) (F_90 42) (F_90 43) (F_90 49) (F_90 50) (F_90 51) (F_90 52) (F_90 53) (F_90 54) (F_90 55) (F_90 56) (F_90 57) (F_90 58) (F_90 59) (n_91 9) (n_91 11) (n_91 12) (n_91 44) (n_91 45) (n_91 46) (n_91 47) (n_91 48)) H := hP
        have hD : va_D A (w10 h0 X C (F_90 0) (F_90 1) (F_90 2) (F_90 3) (F_90 4) (F_90 5) (F_90 6) (F_90 7) (F_90 8) (F_90 10) (F_90 13) (F_90 14) (F_90 15) (F_90 16) (F_90 17) (F_90 18) (F_90 19) (F_90 20) (F_90 21) (F_90 22) (F_90 23) (F_90 24) (F_90 25) (F_90 26) (F_90 27) (F_90 28) (F_90 29) (F_90 30) (F_90 31) (F_90 32) (F_90 33) (F_90 34) (F_90 35) (F_90 36) (F_90 37) (F_90 38) (F_90 39) (F_90 40) (F_90 41) (F_90 42) (F_90 43) (F_90 49) (F_90 50) (F_90 51) (F_90 52) (F_90 53) (F_90 54) (F_90 55) (F_90 56) (F_90 57) (F_90 58) (F_90 59) (n_91 9) (n_91 11) (n_91 12) (n_91 44) (n_91 45) (n_91 46) (n_91 47) (n_91 48)) := hD
        rcases hw with ⟨rfl, w_122⟩ | ⟨rfl, w_122⟩
        · have w_122 : (F_90 13 (Int32.toNatClampNeg v1)).toInt = ((F 13) (Int32.toNatClampNeg v1)).toInt ∧ (F_90 20 (Int32.toNatClampNeg v1)).toInt = ((F 20) (Int32.toNatClampNeg v1)).toInt ∧ (F_90 24 (Int32.toNatClampNeg v1)).toInt = ((F 24) (Int32.toNatClampNeg v1)).toInt ∧ ((n 11)).toInt ≤ (n_91 11).toInt := w_122
          try simp only [upd_eq] at w_122
          refine lv_istore (lv' := [(5, .int 1), (4, .int z_76), (3, .int z_75), (2, .int z_33), (0, .ref h0), (1, .int v1)]) hx hb dX10_does_144 hl (by decide) rfl (fun ls hl => ?_)
          refine lv_goto (tgt := 484) hx hb dX10_does_146 (by decide) ?_
          refine lv_iload hx hb dX10_does_484 (lv_at hl 0 rfl) ?_
          refine lv_if_eq (tgt := 506) hx hb dX10_does_486 (by decide) (fun c_123 => absurd c_123 (by decide)) (fun _ => ?_)
          refine lv_aload_n hx hb dX10_does_489 rfl (lv_at hl 4 rfl) ?_
          refine va_get (D := (dC, dI)) (ci := 10) (v := .ref (X 20)) (C := RX10) (T := TX10) (N := 60) hx hb hg gb_10 hown hK hP 0 rfl rfl 20 (by decide) (hg _ gm_fieldLink_RX10_66_ErrandGuildModel_place_AI_) (fun _ h9 => h9) rfl dX10_does_490 ?_
          refine lv_iload_n hx hb dX10_does_493 rfl (lv_at hl 5 rfl) ?_
          refine lv_aload_n hx hb dX10_does_494 rfl (lv_at hl 4 rfl) ?_
          refine va_get (D := (dC, dI)) (ci := 10) (v := .ref (X 20)) (C := RX10) (T := TX10) (N := 60) hx hb hg gb_10 hown hK hP 0 rfl rfl 20 (by decide) (hg _ gm_fieldLink_RX10_66_ErrandGuildModel_place_AI_) (fun _ h9 => h9) rfl dX10_does_495 ?_
          refine lv_iload_n hx hb dX10_does_498 rfl (lv_at hl 5 rfl) ?_
          refine va_iald (f := F_90 20) hx hb hK hP 18 17 rfl rfl (vp_in_iff.mpr ⟨by omega, by omega⟩) dX10_does_499 ?_
          refine lv_topi (fun z_124 ez_124 => ?_)
          have qz_124 := congrArg Int32.toInt ez_124
          have bz_124 := bd_at b_100 ez_124
          refine lv_iconst (v := 1) hx hb dX10_does_500 (by decide) ?_
          refine lv_iadd hx hb dX10_does_501 ?_
          refine lv_topi (fun z_125 ez_125 => ?_)
          have tz_125 : z_125.toInt = z_124.toInt + 1 := ar_add rfl ti_1 ez_125 (by omega)
          refine va_iast (f := F_90 20) hx hb hK hP hD hS 18 17 rfl rfl (vp_in_iff.mpr ⟨by omega, by omega⟩) dX10_does_502 (fun H locs hP hD hS => ?_)
          have hP : va_P (dC, dI) vwCl (w10 h0 X C (F_90 0) (F_90 1) (F_90 2) (F_90 3) (F_90 4) (F_90 5) (F_90 6) (F_90 7) (F_90 8) (F_90 10) (F_90 13) (F_90 14) (F_90 15) (F_90 16) (F_90 17) (F_90 18) (F_90 19) (upd (F_90 20) (Int32.toNatClampNeg v1) z_125) (F_90 21) (F_90 22) (F_90 23) (F_90 24) (F_90 25) (F_90 26) (F_90 27) (F_90 28) (F_90 29) (F_90 30) (F_90 31) (F_90 32) (F_90 33) (F_90 34) (F_90 35) (F_90 36) (F_90 37) (F_90 38) (F_90 39) (F_90 40) (F_90 41) (F_90 42) (F_90 43) (F_90 49) (F_90 50) (F_90 51) (F_90 52) (F_90 53) (F_90 54) (F_90 55) (F_90 56) (F_90 57) (F_90 58) (F_90 59) (n_91 9) (n_91 11) (n_91 12) (n_91 44) (n_91 45) (n_91 46) (n_91 47) (n_91 48)) H := hP
          have hD : va_D A (w10 h0 X C (F_90 0) (F_90 1) (F_90 2) (F_90 3) (F_90 4) (F_90 5) (F_90 6) (F_90 7) (F_90 8) (F_90 10) (F_90 13) (F_90 14) (F_90 15) (F_90 16) (F_90 17) (F_90 18) (F_90 19) (upd (F_90 20) (Int32.toNatClampNeg v1) z_125) (F_90 21) (F_90 22) (F_90 23) (F_90 24) (F_90 25) (F_90 26) (F_90 27) (F_90 28) (F_90 29) (F_90 30) (F_90 31) (F_90 32) (F_90 33) (F_90 34) (F_90 35) (F_90 36) (F_90 37) (F_90 38) (F_90 39) (F_90 40) (F_90 41) (F_90 42) (F_90 43) (F_90 49) (F_90 50) (F_90 51) (F_90 52) (F_90 53) (F_90 54) (F_90 55) (F_90 56) (F_90 57) (F_90 58) (F_90 59) (n_91 9) (n_91 11) (n_91 12) (n_91 44) (n_91 45) (n_91 46) (n_91 47) (n_91 48)) := hD
          have b_126 := bd_upd b_100 (Int32.toNatClampNeg v1) (x := z_125) (by omega) (by omega)
          have j_127 : J2 (F_90 39) (upd (F_90 20) (Int32.toNatClampNeg v1) z_125) := J2_pl j_114 (Int32.toNatClampNeg v1) (by have h_ := j_114 (Int32.toNatClampNeg v1); omega)
          have j_128 : J2 (F_90 36) (upd (F_90 20) (Int32.toNatClampNeg v1) z_125) := J2_pl j_115 (Int32.toNatClampNeg v1) (by have h_ := j_115 (Int32.toNatClampNeg v1); omega)
          have j_129 : J7 (F_90 24) (upd (F_90 20) (Int32.toNatClampNeg v1) z_125) := J7_pl j_119 (Int32.toNatClampNeg v1) (Or.inl (by omega))
          refine lv_goto (tgt := 514) hx hb dX10_does_503 (by decide) ?_
          exact W.vret hx hb hr (fun t ht hW => ⟨⟨((fun k => ([F_90 0, F_90 1, F_90 2, F_90 3, F_90 4, F_90 5, F_90 6, F_90 7, F_90 8, (fun _ => 0), F_90 10, (fun _ => 0), (fun _ => 0), F_90 13, F_90 14, F_90 15, F_90 16, F_90 17, F_90 18, F_90 19, upd (F_90 20) (Int32.toNatClampNeg v1) z_125, F_90 21, F_90 22, F_90 23, F_90 24, F_90 25, F_90 26, F_90 27, F_90 28, F_90 29, F_90 30, F_90 31, F_90 32, F_90 33, F_90 34, F_90 35, F_90 36, F_90 37, F_90 38, F_90 39, F_90 40, F_90 41, F_90 42, F_90 43, (fun _ => 0), (fun _ => 0), (fun _ => 0), (fun _ => 0), (fun _ => 0), F_90 49, F_90 50, F_90 51, F_90 52, F_90 53, F_90 54, F_90 55, F_90 56, F_90 57, F_90 58, F_90 59] : List (Nat → Int32)).getD k (fun _ => 0)), n_91), rfl, (by show (n 11).toInt ≤ ((n_91 11)).toInt; omega), by rw [ht]; exact hP, hD, I10_mono (k := kp) ⟨b_93, b_94, b_95, b_96, b_97, b_98, b_99, b_126, b_101, b_102, b_103, b_104, i_105, i_106, i_107, i_108, i_109, i_110, i_111, j_112, j_113, j_127, j_128, j_116, j_117, j_118, j_129, j_120, j_121⟩ (by omega)⟩, hS.F ht⟩) hS.2.2 dX10_does_514
        · have w_122 : (F_90 13 (Int32.toNatClampNeg v1)).toInt = ((F 13) (Int32.toNatClampNeg v1)).toInt ∧ (F_90 20 (Int32.toNatClampNeg v1)).toInt = ((F 20) (Int32.toNatClampNeg v1)).toInt ∧ (F_90 24 (Int32.toNatClampNeg v1)).toInt = ((F 24) (Int32.toNatClampNeg v1)).toInt ∧ ((n 11)).toInt ≤ (n_91 11).toInt := w_122
          try simp only [upd_eq] at w_122
          refine lv_istore (lv' := [(5, .int 0), (4, .int z_76), (3, .int z_75), (2, .int z_33), (0, .ref h0), (1, .int v1)]) hx hb dX10_does_144 hl (by decide) rfl (fun ls hl => ?_)
          refine lv_goto (tgt := 484) hx hb dX10_does_146 (by decide) ?_
          refine lv_iload hx hb dX10_does_484 (lv_at hl 0 rfl) ?_
          refine lv_if_eq (tgt := 506) hx hb dX10_does_486 (by decide) (fun _ => ?_) (fun c_130 => absurd c_130 (by decide))
          refine lv_aload_n hx hb dX10_does_506 rfl (lv_at hl 4 rfl) ?_
          refine lv_iload_n hx hb dX10_does_507 rfl (lv_at hl 5 rfl) ?_
          refine lv_iconst (v := 5) hx hb dX10_does_508 (by decide) ?_
          refine lv_iconst (v := -1) hx hb dX10_does_509 (by decide) ?_
          refine lv_iconst (v := 0) hx hb dX10_does_510 (by decide) ?_
          have hFc := free_all hD hS hA
          refine va_callv (va_runV (As := [.int v1, .int 5, .int (-1), .int 0]) (rest := []) ⟨hx, hb, hml, hown, hg⟩ (c_X10_fails l dC dI kp h0 X C F_90 n_91 v1 5 (-1) 0 H.size ⟨b_93, b_94, b_95, b_96, b_97, b_98, b_99, b_100, b_101, b_102, b_103, b_104, i_105, i_106, i_107, i_108, i_109, i_110, i_111, j_112, j_113, j_114, j_115, j_116, j_117, j_118, j_119, j_120, j_121⟩ (by have t_0 := ti_5; have t_1 := ti_m1; have t_2 := ti_0; omega) (by have t_0 := ti_5; have t_1 := ti_m1; have t_2 := ti_0; show v1.toInt < ((n_91 11)).toInt; omega) (by have t_0 := ti_5; have t_1 := ti_m1; have t_2 := ti_0; show ((F_90 13) (Int32.toNatClampNeg v1)).toInt = 1; omega) (by have t_0 := ti_5; have t_1 := ti_m1; have t_2 := ti_0; show ((F_90 24) (Int32.toNatClampNeg v1)).toInt = 0; omega) (by have t_0 := ti_5; have t_1 := ti_m1; have t_2 := ti_0; omega)) (cwV 4 hg (gw_V gm_methodLink_RX10_225_yX10_fails gm_instanceMethod_yX10_fails gm_selects_RX10_yX10_fails_yX10_fails gm_initialized_RX10 gm_code_yX10_fails_cX10_fails_6_none) rfl rfl rfl (by decide +kernel) ⟨Nat.le_of_ble_eq_true rfl, Nat.le_of_ble_eq_true rfl⟩) ⟨fun a U g mk q => by obtain ⟨q0, q1, qP, qK, qD, qN⟩ := q; exact ⟨q0, q1, qP, va_K.moved (u := U) (U := U.calling g mk a) (Vm.Alike.refl U.vm) qK, qD, nx_same (u := U) (U := U.calling g mk a) rfl qN⟩, va_recv hK hP (ci := 10) (q0 := 0) rfl rfl, fun U hU hW => ⟨rfl, by rw [hU], by rw [hU]; exact hP, va_K.moved hW.alike hK, hD.weaken (fun _ _ _ _ => trivial), nx_warm hW hN⟩⟩ rfl rfl hl.1 rfl (lv_room (Nat.le_of_ble_eq_true rfl)) dX10_does_511 ⟨Nat.le_of_ble_eq_true rfl, Nat.le_of_ble_eq_true rfl⟩) hS (fun q _ h => hFc q h) hFc (fun u_132 t H1 locs ht hvm hw hB hz1 hk1 hS => ?_)
          obtain ⟨F_133, n_134⟩ := u_132
          obtain ⟨hP, hD, hI_135⟩ := hB
          have hI_135 : I10 kp F_133 n_134 := hI_135
          obtain ⟨b_136, b_137, b_138, b_139, b_140, b_141, b_142, b_143, b_144, b_145, b_146, b_147, i_148, i_149, i_150, i_151, i_152, i_153, i_154, j_155, j_156, j_157, j_158, j_159, j_160, j_161, j_162, j_163, j_164⟩ := id hI_135
          rw [ht] at hP
          have hD := hD.weaken (fun k q _ h => hFc _ h)
          generalize H1 = H at hP hS ⊢
          have hP : va_P (dC, dI) vwCl (w10 h0 X C (F_133 0) (F_133 1) (F_133 2) (F_133 3) (F_133 4) (F_133 5) (F_133 6) (F_133 7) (F_133 8) (F_133 10) (F_133 13) (F_133 14) (F_133 15) (F_133 16) (F_133 17) (F_133 18) (F_133 19) (F_133 20) (F_133 21) (F_133 22) (F_133 23) (F_133 24) (F_133 25) (F_133 26) (F_133 27) (F_133 28) (F_133 29) (F_133 30) (F_133 31) (F_133 32) (F_133 33) (F_133 34) (F_133 35) (F_133 36) (F_133 37) (F_133 38) (F_133 39) (F_133 40) (F_133 41) (F_133 42) (F_133 43) (F_133 49) (F_133 50) (F_133 51) (F_133 52) (F_133 53) (F_133 54) (F_133 55) (F_133 56) (F_133 57) (F_133 58) (F_133 59) (n_134 9) (n_134 11) (n_134 12) (n_134 44) (n_134 45) (n_134 46) (n_134 47) (n_134 48)) H := hP
          have hD : va_D A (w10 h0 X C (F_133 0) (F_133 1) (F_133 2) (F_133 3) (F_133 4) (F_133 5) (F_133 6) (F_133 7) (F_133 8) (F_133 10) (F_133 13) (F_133 14) (F_133 15) (F_133 16) (F_133 17) (F_133 18) (F_133 19) (F_133 20) (F_133 21) (F_133 22) (F_133 23) (F_133 24) (F_133 25) (F_133 26) (F_133 27) (F_133 28) (F_133 29) (F_133 30) (F_133 31) (F_133 32) (F_133 33) (F_133 34) (F_133 35) (F_133 36) (F_133 37) (F_133 38) (F_133 39) (F_133 40) (F_133 41) (F_133 42) (F_133 43) (F_133 49) (F_133 50) (F_133 51) (F_133 52) (F_133 53) (F_133 54) (F_133 55) (F_133 56) (F_133 57) (F_133 58) (F_133 59) (n_134 9) (n_134 11) (n_134 12) (n_134 44) (n_134 45) (n_134 46) (n_134 47) (n_134 48)) := hD
          have w_165 : ((n_91 11)).toInt ≤ (n_134 11).toInt := hw
          try simp only [upd_eq] at w_165
          exact W.vret hx hb hr (fun t ht hW => ⟨⟨(F_133, n_134), rfl, (by show (n 11).toInt ≤ ((n_134 11)).toInt; omega), by rw [ht]; exact hP, hD, I10_mono (k := kp) ⟨b_136, b_137, b_138, b_139, b_140, b_141, b_142, b_143, b_144, b_145, b_146, b_147, i_148, i_149, i_150, i_151, i_152, i_153, i_154, j_155, j_156, j_157, j_158, j_159, j_160, j_161, j_162, j_163, j_164⟩ (by omega)⟩, hS.F ht⟩) hS.2.2 dX10_does_514
      · refine lv_tableIn (tgt := 149) hx hb dX10_does_79 (by omega) (by omega) (by rw [sw_78]; rfl) (by decide) ?_
        refine lv_aload_n hx hb dX10_does_149 rfl (lv_at hl 4 rfl) ?_
        refine lv_iload_n hx hb dX10_does_150 rfl (lv_at hl 5 rfl) ?_
        refine lv_iload_n hx hb dX10_does_151 rfl (lv_at hl 2 rfl) ?_
        have hFc := free_all hD hS hA
        refine va_callv (va_runV (As := [.int v1, .int z_75]) (rest := []) ⟨hx, hb, hml, hown, hg⟩ (c_X10_adds l dC dI kp h0 X C F n v1 z_75 s.heap.size ⟨b_1, b_2, b_3, b_4, b_5, b_6, b_7, b_8, b_9, b_10, b_11, b_12, i_13, i_14, i_15, i_16, i_17, i_18, i_19, j_20, j_21, j_22, j_23, j_24, j_25, j_26, j_27, j_28, j_29⟩ (by omega) (by omega) (by omega)) (cwV 2 hg (gw_V gm_methodLink_RX10_233_yX10_adds gm_instanceMethod_yX10_adds gm_selects_RX10_yX10_adds_yX10_adds gm_initialized_RX10 gm_code_yX10_adds_cX10_adds_4_none) rfl rfl rfl (by decide +kernel) ⟨Nat.le_of_ble_eq_true rfl, Nat.le_of_ble_eq_true rfl⟩) ⟨fun a U g mk q => by obtain ⟨q0, q1, qP, qK, qD, qN⟩ := q; exact ⟨q0, q1, qP, va_K.moved (u := U) (U := U.calling g mk a) (Vm.Alike.refl U.vm) qK, qD, nx_same (u := U) (U := U.calling g mk a) rfl qN⟩, va_recv hK hP (ci := 10) (q0 := 0) rfl rfl, fun U hU hW => ⟨rfl, by rw [hU], by rw [hU]; exact hP, va_K.moved hW.alike hK, hD.weaken (fun _ _ _ _ => trivial), nx_warm hW hN⟩⟩ rfl rfl hl.1 rfl (lv_room (Nat.le_of_ble_eq_true rfl)) dX10_does_152 ⟨Nat.le_of_ble_eq_true rfl, Nat.le_of_ble_eq_true rfl⟩) hS (fun q _ h => hFc q h) hFc (fun u_167 t H1 locs ht hvm hw hB hz1 hk1 hS => ?_)
        obtain ⟨F_168, n_169⟩ := u_167
        obtain ⟨hP, hD, hI_170⟩ := hB
        have hI_170 : I10 (kp + 1) F_168 n_169 := hI_170
        obtain ⟨b_171, b_172, b_173, b_174, b_175, b_176, b_177, b_178, b_179, b_180, b_181, b_182, i_183, i_184, i_185, i_186, i_187, i_188, i_189, j_190, j_191, j_192, j_193, j_194, j_195, j_196, j_197, j_198, j_199⟩ := id hI_170
        rw [ht] at hP
        have hD := hD.weaken (fun k q _ h => hFc _ h)
        generalize H1 = H at hP hS ⊢
        have hP : va_P (dC, dI) vwCl (w10 h0 X C (F_168 0) (F_168 1) (F_168 2) (F_168 3) (F_168 4) (F_168 5) (F_168 6) (F_168 7) (F_168 8) (F_168 10) (F_168 13) (F_168 14) (F_168 15) (F_168 16) (F_168 17) (F_168 18) (F_168 19) (F_168 20) (F_168 21) (F_168 22) (F_168 23) (F_168 24) (F_168 25) (F_168 26) (F_168 27) (F_168 28) (F_168 29) (F_168 30) (F_168 31) (F_168 32) (F_168 33) (F_168 34) (F_168 35) (F_168 36) (F_168 37) (F_168 38) (F_168 39) (F_168 40) (F_168 41) (F_168 42) (F_168 43) (F_168 49) (F_168 50) (F_168 51) (F_168 52) (F_168 53) (F_168 54) (F_168 55) (F_168 56) (F_168 57) (F_168 58) (F_168 59) (n_169 9) (n_169 11) (n_169 12) (n_169 44) (n_169 45) (n_169 46) (n_169 47) (n_169 48)) H := hP
        have hD : va_D A (w10 h0 X C (F_168 0) (F_168 1) (F_168 2) (F_168 3) (F_168 4) (F_168 5) (F_168 6) (F_168 7) (F_168 8) (F_168 10) (F_168 13) (F_168 14) (F_168 15) (F_168 16) (F_168 17) (F_168 18) (F_168 19) (F_168 20) (F_168 21) (F_168 22) (F_168 23) (F_168 24) (F_168 25) (F_168 26) (F_168 27) (F_168 28) (F_168 29) (F_168 30) (F_168 31) (F_168 32) (F_168 33) (F_168 34) (F_168 35) (F_168 36) (F_168 37) (F_168 38) (F_168 39) (F_168 40) (F_168 41) (F_168 42) (F_168 43) (F_168 49) (F_168 50) (F_168 51) (F_168 52) (F_168 53) (F_168 54) (F_168 55) (F_168 56) (F_168 57) (F_168 58) (F_168 59) (n_169 9) (n_169 11) (n_169 12) (n_169 44) (n_169 45) (n_169 46) (n_169 47) (n_169 48)) := hD
        have w_200 : (F_168 13 (Int32.toNatClampNeg v1)).toInt = ((F 13) (Int32.toNatClampNeg v1)).toInt ∧ (F_168 20 (Int32.toNatClampNeg v1)).toInt = ((F 20) (Int32.toNatClampNeg v1)).toInt ∧ (F_168 24 (Int32.toNatClampNeg v1)).toInt = ((F 24) (Int32.toNatClampNeg v1)).toInt ∧ ((n 11)).toInt ≤ (n_169 11).toInt := hw
        try simp only [upd_eq] at w_200
        refine lv_goto (tgt := 484) hx hb dX10_does_155 (by decide) ?_
        refine lv_iload hx hb dX10_does_484 (lv_at hl 0 rfl) ?_
        refine lv_if_eq (tgt := 506) hx hb dX10_does_486 (by decide) (fun c_201 => absurd c_201 (by decide)) (fun _ => ?_)
        refine lv_aload_n hx hb dX10_does_489 rfl (lv_at hl 4 rfl) ?_
        refine va_get (D := (dC, dI)) (ci := 10) (v := .ref (X 20)) (C := RX10) (T := TX10) (N := 60) hx hb hg gb_10 hown hK hP 0 rfl rfl 20 (by decide) (hg _ gm_fieldLink_RX10_66_ErrandGuildModel_place_AI_) (fun _ h9 => h9) rfl dX10_does_490 ?_
        refine lv_iload_n hx hb dX10_does_493 rfl (lv_at hl 5 rfl) ?_
        refine lv_aload_n hx hb dX10_does_494 rfl (lv_at hl 4 rfl) ?_
        refine va_get (D := (dC, dI)) (ci := 10) (v := .ref (X 20)) (C := RX10) (T := TX10) (N := 60) hx hb hg gb_10 hown hK hP 0 rfl rfl 20 (by decide) (hg _ gm_fieldLink_RX10_66_ErrandGuildModel_place_AI_) (fun _ h9 => h9) rfl dX10_does_495 ?_
        refine lv_iload_n hx hb dX10_does_498 rfl (lv_at hl 5 rfl) ?_
        refine va_iald (f := F_168 20) hx hb hK hP 18 17 rfl rfl (vp_in_iff.mpr ⟨by omega, by omega⟩) dX10_does_499 ?_
        refine lv_topi (fun z_202 ez_202 => ?_)
        have qz_202 := congrArg Int32.toInt ez_202
        have bz_202 := bd_at b_178 ez_202
        refine lv_iconst (v := 1) hx hb dX10_does_500 (by decide) ?_
        refine lv_iadd hx hb dX10_does_501 ?_
        refine lv_topi (fun z_203 ez_203 => ?_)
        have tz_203 : z_203.toInt = z_202.toInt + 1 := ar_add rfl ti_1 ez_203 (by omega)
        refine va_iast (f := F_168 20) hx hb hK hP hD hS 18 17 rfl rfl (vp_in_iff.mpr ⟨by omega, by omega⟩) dX10_does_502 (fun H locs hP hD hS => ?_)
        have hP : va_P (dC, dI) vwCl (w10 h0 X C (F_168 0) (F_168 1) (F_168 2) (F_168 3) (F_168 4) (F_168 5) (F_168 6) (F_168 7) (F_168 8) (F_168 10) (F_168 13) (F_168 14) (F_168 15) (F_168 16) (F_168 17) (F_168 18) (F_168 19) (upd (F_168 20) (Int32.toNatClampNeg v1) z_203) (F_168 21) (F_168 22) (F_168 23) (F_168 24) (F_168 25) (F_168 26) (F_168 27) (F_168 28) (F_168 29) (F_168 30) (F_168 31) (F_168 32) (F_168 33) (F_168 34) (F_168 35) (F_168 36) (F_168 37) (F_168 38) (F_168 39) (F_168 40) (F_168 41) (F_168 42) (F_168 43) (F_168 49) (F_168 50) (F_168 51) (F_168 52) (F_168 53) (F_168 54) (F_168 55) (F_168 56) (F_168 57) (F_168 58) (F_168 59) (n_169 9) (n_169 11) (n_169 12) (n_169 44) (n_169 45) (n_169 46) (n_169 47) (n_169 48)) H := hP
        have hD : va_D A (w10 h0 X C (F_168 0) (F_168 1) (F_168 2) (F_168 3) (F_168 4) (F_168 5) (F_168 6) (F_168 7) (F_168 8) (F_168 10) (F_168 13) (F_168 14) (F_168 15) (F_168 16) (F_168 17) (F_168 18) (F_168 19) (upd (F_168 20) (Int32.toNatClampNeg v1) z_203) (F_168 21) (F_168 22) (F_168 23) (F_168 24) (F_168 25) (F_168 26) (F_168 27) (F_168 28) (F_168 29) (F_168 30) (F_168 31) (F_168 32) (F_168 33) (F_168 34) (F_168 35) (F_168 36) (F_168 37) (F_168 38) (F_168 39) (F_168 40) (F_168 41) (F_168 42) (F_168 43) (F_168 49) (F_168 50) (F_168 51) (F_168 52) (F_168 53) (F_168 54) (F_168 55) (F_168 56) (F_168 57) (F_168 58) (F_168 59) (n_169 9) (n_169 11) (n_169 12) (n_169 44) (n_169 45) (n_169 46) (n_169 47) (n_169 48)) := hD
        have b_204 := bd_upd b_178 (Int32.toNatClampNeg v1) (x := z_203) (by omega) (by omega)
        have j_205 : J2 (F_168 39) (upd (F_168 20) (Int32.toNatClampNeg v1) z_203) := J2_pl j_192 (Int32.toNatClampNeg v1) (by have h_ := j_192 (Int32.toNatClampNeg v1); omega)
        have j_206 : J2 (F_168 36) (upd (F_168 20) (Int32.toNatClampNeg v1) z_203) := J2_pl j_193 (Int32.toNatClampNeg v1) (by have h_ := j_193 (Int32.toNatClampNeg v1); omega)
        have j_207 : J7 (F_168 24) (upd (F_168 20) (Int32.toNatClampNeg v1) z_203) := J7_pl j_197 (Int32.toNatClampNeg v1) (Or.inl (by omega))
        refine lv_goto (tgt := 514) hx hb dX10_does_503 (by decide) ?_
        exact W.vret hx hb hr (fun t ht hW => ⟨⟨((fun k => ([F_168 0, F_168 1, F_168 2, F_168 3, F_168 4, F_168 5, F_168 6, F_168 7, F_168 8, (fun _ => 0), F_168 10, (fun _ => 0), (fun _ => 0), F_168 13, F_168 14, F_168 15, F_168 16, F_168 17, F_168 18, F_168 19, upd (F_168 20) (Int32.toNatClampNeg v1) z_203, F_168 21, F_168 22, F_168 23, F_168 24, F_168 25, F_168 26, F_168 27, F_168 28, F_168 29, F_168 30, F_168 31, F_168 32, F_168 33, F_168 34, F_168 35, F_168 36, F_168 37, F_168 38, F_168 39, F_168 40, F_168 41, F_168 42, F_168 43, (fun _ => 0), (fun _ => 0), (fun _ => 0), (fun _ => 0), (fun _ => 0), F_168 49, F_168 50, F_168 51, F_168 52, F_168 53, F_168 54, F_168 55, F_168 56, F_168 57, F_168 58, F_168 59] : List (Nat → Int32)).getD k (fun _ => 0)), n_169), rfl, (by show (n 11).toInt ≤ ((n_169 11)).toInt; omega), by rw [ht]; exact hP, hD, ⟨b_171, b_172, b_173, b_174, b_175, b_176, b_177, b_204, b_179, b_180, b_181, b_182, i_183, i_184, i_185, i_186, i_187, i_188, i_189, j_190, j_191, j_205, j_206, j_194, j_195, j_196, j_207, j_198, j_199⟩⟩, hS.F ht⟩) hS.2.2 dX10_does_514
      · refine lv_tableIn (tgt := 158) hx hb dX10_does_79 (by omega) (by omega) (by rw [sw_78]; rfl) (by decide) ?_
        refine lv_aload_n hx hb dX10_does_158 rfl (lv_at hl 4 rfl) ?_
        refine lv_iload_n hx hb dX10_does_159 rfl (lv_at hl 5 rfl) ?_
        refine lv_iload_n hx hb dX10_does_160 rfl (lv_at hl 2 rfl) ?_
        refine lv_iload hx hb dX10_does_161 (lv_at hl 1 rfl) ?_
        have hFc := free_all hD hS hA
        refine va_calli (va_runV (As := [.int v1, .int z_75, .int z_76]) (rest := []) ⟨hx, hb, hml, hown, hg⟩ (c_X10_binds l dC dI kp h0 X C F n v1 z_75 z_76 s.heap.size ⟨b_1, b_2, b_3, b_4, b_5, b_6, b_7, b_8, b_9, b_10, b_11, b_12, i_13, i_14, i_15, i_16, i_17, i_18, i_19, j_20, j_21, j_22, j_23, j_24, j_25, j_26, j_27, j_28, j_29⟩ (by omega) (by omega) (by omega) (by show ((F 24) (Int32.toNatClampNeg v1)).toInt = 0; omega) (by show ((F 20) (Int32.toNatClampNeg v1)).toInt ≤ 23; omega)) (cwV 3 hg (gw_V gm_methodLink_RX10_236_yX10_binds gm_instanceMethod_yX10_binds gm_selects_RX10_yX10_binds_yX10_binds gm_initialized_RX10 gm_code_yX10_binds_cX10_binds_5_some_boolean_) rfl rfl rfl (by decide +kernel) ⟨Nat.le_of_ble_eq_true rfl, Nat.le_of_ble_eq_true rfl⟩) ⟨fun a U g mk q => by obtain ⟨q0, q1, qP, qK, qD, qN⟩ := q; exact ⟨q0, q1, qP, va_K.moved (u := U) (U := U.calling g mk a) (Vm.Alike.refl U.vm) qK, qD, nx_same (u := U) (U := U.calling g mk a) rfl qN⟩, va_recv hK hP (ci := 10) (q0 := 0) rfl rfl, fun U hU hW => ⟨rfl, by rw [hU], by rw [hU]; exact hP, va_K.moved hW.alike hK, hD.weaken (fun _ _ _ _ => trivial), nx_warm hW hN⟩⟩ rfl rfl hl.1 rfl (lv_room (Nat.le_of_ble_eq_true rfl)) dX10_does_163 ⟨Nat.le_of_ble_eq_true rfl, Nat.le_of_ble_eq_true rfl⟩) hS (fun q _ h => hFc q h) hFc (fun r_208 u_209 t H1 locs ht hvm hw hB hz1 hk1 hS => ?_)
        obtain ⟨F_210, n_211⟩ := u_209
        obtain ⟨hP, hD⟩ := hB
        rw [ht] at hP
        have hD := hD.weaken (fun k q _ h => hFc _ h)
        generalize H1 = H at hP hS ⊢
        have hP : va_P (dC, dI) vwCl (w10 h0 X C (F_210 0) (F_210 1) (F_210 2) (F_210 3) (F_210 4) (F_210 5) (F_210 6) (F_210 7) (F_210 8) (F_210 10) (F_210 13) (F_210 14) (F_210 15) (F_210 16) (F_210 17) (F_210 18) (F_210 19) (F_210 20) (F_210 21) (F_210 22) (F_210 23) (F_210 24) (F_210 25) (F_210 26) (F_210 27) (F_210 28) (F_210 29) (F_210 30) (F_210 31) (F_210 32) (F_210 33) (F_210 34) (F_210 35) (F_210 36) (F_210 37) (F_210 38) (F_210 39) (F_210 40) (F_210 41) (F_210 42) (F_210 43) (F_210 49) (F_210 50) (F_210 51) (F_210 52) (F_210 53) (F_210 54) (F_210 55) (F_210 56) (F_210 57) (F_210 58) (F_210 59) (n_211 9) (n_211 11) (n_211 12) (n_211 44) (n_211 45) (n_211 46) (n_211 47) (n_211 48)) H := hP
        have hD : va_D A (w10 h0 X C (F_210 0) (F_210 1) (F_210 2) (F_210 3) (F_210 4) (F_210 5) (F_210 6) (F_210 7) (F_210 8) (F_210 10) (F_210 13) (F_210 14) (F_210 15) (F_210 16) (F_210 17) (F_210 18) (F_210 19) (F_210 20) (F_210 21) (F_210 22) (F_210 23) (F_210 24) (F_210 25) (F_210 26) (F_210 27) (F_210 28) (F_210 29) (F_210 30) (F_210 31) (F_210 32) (F_210 33) (F_210 34) (F_210 35) (F_210 36) (F_210 37) (F_210 38) (F_210 39) (F_210 40) (F_210 41) (F_210 42) (F_210 43) (F_210 49) (F_210 50) (F_210 51) (F_210 52) (F_210 53) (F_210 54) (F_210 55) (F_210 56) (F_210 57) (F_210 58) (F_210 59) (n_211 9) (n_211 11) (n_211 12) (n_211 44) (n_211 45) (n_211 46) (n_211 47) (n_211 48)) := hD
        rcases hw with ⟨rfl, w_212⟩ | ⟨rfl, w_212⟩
        · have w_212 : (F_210 13 (Int32.toNatClampNeg v1)).toInt = ((F 13) (Int32.toNatClampNeg v1)).toInt ∧ (F_210 20 (Int32.toNatClampNeg v1)).toInt = ((F 20) (Int32.toNatClampNeg v1)).toInt ∧ (F_210 24 (Int32.toNatClampNeg v1)).toInt = ((F 24) (Int32.toNatClampNeg v1)).toInt ∧ ((n 11)).toInt ≤ (n_211 11).toInt ∧ ∀ z : Int32, z.toInt = ((F 20) (Int32.toNatClampNeg v1)).toInt + 1 → I10 (kp + 1) (fun k => ([F_210 0, F_210 1, F_210 2, F_210 3, F_210 4, F_210 5, F_210 6, F_210 7, F_210 8, (fun _ => 0), F_210 10, (fun _ => 0), (fun _ => 0), F_210 13, F_210 14, F_210 15, F_210 16, F_210 17, F_210 18, F_210 19, upd (F_210 20) (Int32.toNatClampNeg v1) z, F_210 21, F_210 22, F_210 23, F_210 24, F_210 25, F_210 26, F_210 27, F_210 28, F_210 29, F_210 30, F_210 31, F_210 32, F_210 33, F_210 34, F_210 35, F_210 36, F_210 37, F_210 38, F_210 39, F_210 40, F_210 41, F_210 42, F_210 43, (fun _ => 0), (fun _ => 0), (fun _ => 0), (fun _ => 0), (fun _ => 0), F_210 49, F_210 50, F_210 51, F_210 52, F_210 53, F_210 54, F_210 55, F_210 56, F_210 57, F_210 58, F_210 59] : List (Nat → Int32)).getD k (fun _ => 0)) n_211 := w_212
          try simp only [upd_eq] at w_212
          refine lv_istore (lv' := [(5, .int 1), (4, .int z_76), (3, .int z_75), (2, .int z_33), (0, .ref h0), (1, .int v1)]) hx hb dX10_does_166 hl (by decide) rfl (fun ls hl => ?_)
          refine lv_goto (tgt := 484) hx hb dX10_does_168 (by decide) ?_
          refine lv_iload hx hb dX10_does_484 (lv_at hl 0 rfl) ?_
          refine lv_if_eq (tgt := 506) hx hb dX10_does_486 (by decide) (fun c_213 => absurd c_213 (by decide)) (fun _ => ?_)
          refine lv_aload_n hx hb dX10_does_489 rfl (lv_at hl 4 rfl) ?_
          refine va_get (D := (dC, dI)) (ci := 10) (v := .ref (X 20)) (C := RX10) (T := TX10) (N := 60) hx hb hg gb_10 hown hK hP 0 rfl rfl 20 (by decide) (hg _ gm_fieldLink_RX10_66_ErrandGuildModel_place_AI_) (fun _ h9 => h9) rfl dX10_does_490 ?_
          refine lv_iload_n hx hb dX10_does_493 rfl (lv_at hl 5 rfl) ?_
          refine lv_aload_n hx hb dX10_does_494 rfl (lv_at hl 4 rfl) ?_
          refine va_get (D := (dC, dI)) (ci := 10) (v := .ref (X 20)) (C := RX10) (T := TX10) (N := 60) hx hb hg gb_10 hown hK hP 0 rfl rfl 20 (by decide) (hg _ gm_fieldLink_RX10_66_ErrandGuildModel_place_AI_) (fun _ h9 => h9) rfl dX10_does_495 ?_
          refine lv_iload_n hx hb dX10_does_498 rfl (lv_at hl 5 rfl) ?_
          refine va_iald (f := F_210 20) hx hb hK hP 18 17 rfl rfl (vp_in_iff.mpr ⟨by omega, by omega⟩) dX10_does_499 ?_
          refine lv_topi (fun z_214 ez_214 => ?_)
          have qz_214 := congrArg Int32.toInt ez_214
          refine lv_iconst (v := 1) hx hb dX10_does_500 (by decide) ?_
          refine lv_iadd hx hb dX10_does_501 ?_
          refine lv_topi (fun z_215 ez_215 => ?_)
          have tz_215 : z_215.toInt = z_214.toInt + 1 := ar_add rfl ti_1 ez_215 (by omega)
          refine va_iast (f := F_210 20) hx hb hK hP hD hS 18 17 rfl rfl (vp_in_iff.mpr ⟨by omega, by omega⟩) dX10_does_502 (fun H locs hP hD hS => ?_)
          have hP : va_P (dC, dI) vwCl (w10 h0 X C (F_210 0) (F_210 1) (F_210 2) (F_210 3) (F_210 4) (F_210 5) (F_210 6) (F_210 7) (F_210 8) (F_210 10) (F_210 13) (F_210 14) (F_210 15) (F_210 16) (F_210 17) (F_210 18) (F_210 19) (upd (F_210 20) (Int32.toNatClampNeg v1) z_215) (F_210 21) (F_210 22) (F_210 23) (F_210 24) (F_210 25) (F_210 26) (F_210 27) (F_210 28) (F_210 29) (F_210 30) (F_210 31) (F_210 32) (F_210 33) (F_210 34) (F_210 35) (F_210 36) (F_210 37) (F_210 38) (F_210 39) (F_210 40) (F_210 41) (F_210 42) (F_210 43) (F_210 49) (F_210 50) (F_210 51) (F_210 52) (F_210 53) (F_210 54) (F_210 55) (F_210 56) (F_210 57) (F_210 58) (F_210 59) (n_211 9) (n_211 11) (n_211 12) (n_211 44) (n_211 45) (n_211 46) (n_211 47) (n_211 48)) H := hP
          have hD : va_D A (w10 h0 X C (F_210 0) (F_210 1) (F_210 2) (F_210 3) (F_210 4) (F_210 5) (F_210 6) (F_210 7) (F_210 8) (F_210 10) (F_210 13) (F_210 14) (F_210 15) (F_210 16) (F_210 17) (F_210 18) (F_210 19) (upd (F_210 20) (Int32.toNatClampNeg v1) z_215) (F_210 21) (F_210 22) (F_210 23) (F_210 24) (F_210 25) (F_210 26) (F_210 27) (F_210 28) (F_210 29) (F_210 30) (F_210 31) (F_210 32) (F_210 33) (F_210 34) (F_210 35) (F_210 36) (F_210 37) (F_210 38) (F_210 39) (F_210 40) (F_210 41) (F_210 42) (F_210 43) (F_210 49) (F_210 50) (F_210 51) (F_210 52) (F_210 53) (F_210 54) (F_210 55) (F_210 56) (F_210 57) (F_210 58) (F_210 59) (n_211 9) (n_211 11) (n_211 12) (n_211 44) (n_211 45) (n_211 46) (n_211 47) (n_211 48)) := hD
          refine lv_goto (tgt := 514) hx hb dX10_does_503 (by decide) ?_
          exact W.vret hx hb hr (fun t ht hW => ⟨⟨((fun k => ([F_210 0, F_210 1, F_210 2, F_210 3, F_210 4, F_210 5, F_210 6, F_210 7, F_210 8, (fun _ => 0), F_210 10, (fun _ => 0), (fun _ => 0), F_210 13, F_210 14, F_210 15, F_210 16, F_210 17, F_210 18, F_210 19, upd (F_210 20) (Int32.toNatClampNeg v1) z_215, F_210 21, F_210 22, F_210 23, F_210 24, F_210 25, F_210 26, F_210 27, F_210 28, F_210 29, F_210 30, F_210 31, F_210 32, F_210 33, F_210 34, F_210 35, F_210 36, F_210 37, F_210 38, F_210 39, F_210 40, F_210 41, F_210 42, F_210 43, (fun _ => 0), (fun _ => 0), (fun _ => 0), (fun _ => 0), (fun _ => 0), F_210 49, F_210 50, F_210 51, F_210 52, F_210 53, F_210 54, F_210 55, F_210 56, F_210 57, F_210 58, F_210 59] : List (Nat → Int32)).getD k (fun _ => 0)), n_211), rfl, (by show (n 11).toInt ≤ ((n_211 11)).toInt; omega), by rw [ht]; exact hP, hD, (w_212.2.2.2.2 z_215 (by omega))⟩, hS.F ht⟩) hS.2.2 dX10_does_514
        · have w_212 : (F_210 13 (Int32.toNatClampNeg v1)).toInt = ((F 13) (Int32.toNatClampNeg v1)).toInt ∧ (F_210 20 (Int32.toNatClampNeg v1)).toInt = ((F 20) (Int32.toNatClampNeg v1)).toInt ∧ (F_210 24 (Int32.toNatClampNeg v1)).toInt = ((F 24) (Int32.toNatClampNeg v1)).toInt ∧ ((n 11)).toInt ≤ (n_211 11).toInt ∧ I10 kp F_210 n_211 := w_212
          try simp only [upd_eq] at w_212
          have hI_216 : I10 kp F_210 n_211 := w_212.2.2.2.2
          obtain ⟨b_217, b_218, b_219, b_220, b_221, b_222, b_223, b_224, b_225, b_226, b_227, b_228, i_229, i_230, i_231, i_232, i_233, i_234, i_235, j_236, j_237, j_238, j_239, j_240, j_241, j_242, j_243, j_244, j_245⟩ := id hI_216
          refine lv_istore (lv' := [(5, .int 0), (4, .int z_76), (3, .int z_75), (2, .int z_33), (0, .ref h0), (1, .int v1)]) hx hb dX10_does_166 hl (by decide) rfl (fun ls hl => ?_)
          refine lv_goto (tgt := 484) hx hb dX10_does_168 (by decide) ?_
          refine lv_iload hx hb dX10_does_484 (lv_at hl 0 rfl) ?_
          refine lv_if_eq (tgt := 506) hx hb dX10_does_486 (by decide) (fun _ => ?_) (fun c_246 => absurd c_246 (by decide))
          refine lv_aload_n hx hb dX10_does_506 rfl (lv_at hl 4 rfl) ?_
          refine lv_iload_n hx hb dX10_does_507 rfl (lv_at hl 5 rfl) ?_
          refine lv_iconst (v := 5) hx hb dX10_does_508 (by decide) ?_
          refine lv_iconst (v := -1) hx hb dX10_does_509 (by decide) ?_
          refine lv_iconst (v := 0) hx hb dX10_does_510 (by decide) ?_
          have hFc := free_all hD hS hA
          refine va_callv (va_runV (As := [.int v1, .int 5, .int (-1), .int 0]) (rest := []) ⟨hx, hb, hml, hown, hg⟩ (c_X10_fails l dC dI kp h0 X C F_210 n_211 v1 5 (-1) 0 H.size ⟨b_217, b_218, b_219, b_220, b_221, b_222, b_223, b_224, b_225, b_226, b_227, b_228, i_229, i_230, i_231, i_232, i_233, i_234, i_235, j_236, j_237, j_238, j_239, j_240, j_241, j_242, j_243, j_244, j_245⟩ (by have t_0 := ti_5; have t_1 := ti_m1; have t_2 := ti_0; omega) (by have t_0 := ti_5; have t_1 := ti_m1; have t_2 := ti_0; show v1.toInt < ((n_211 11)).toInt; omega) (by have t_0 := ti_5; have t_1 := ti_m1; have t_2 := ti_0; show ((F_210 13) (Int32.toNatClampNeg v1)).toInt = 1; omega) (by have t_0 := ti_5; have t_1 := ti_m1; have t_2 := ti_0; show ((F_210 24) (Int32.toNatClampNeg v1)).toInt = 0; omega) (by have t_0 := ti_5; have t_1 := ti_m1; have t_2 := ti_0; omega)) (cwV 4 hg (gw_V gm_methodLink_RX10_225_yX10_fails gm_instanceMethod_yX10_fails gm_selects_RX10_yX10_fails_yX10_fails gm_initialized_RX10 gm_code_yX10_fails_cX10_fails_6_none) rfl rfl rfl (by decide +kernel) ⟨Nat.le_of_ble_eq_true rfl, Nat.le_of_ble_eq_true rfl⟩) ⟨fun a U g mk q => by obtain ⟨q0, q1, qP, qK, qD, qN⟩ := q; exact ⟨q0, q1, qP, va_K.moved (u := U) (U := U.calling g mk a) (Vm.Alike.refl U.vm) qK, qD, nx_same (u := U) (U := U.calling g mk a) rfl qN⟩, va_recv hK hP (ci := 10) (q0 := 0) rfl rfl, fun U hU hW => ⟨rfl, by rw [hU], by rw [hU]; exact hP, va_K.moved hW.alike hK, hD.weaken (fun _ _ _ _ => trivial), nx_warm hW hN⟩⟩ rfl rfl hl.1 rfl (lv_room (Nat.le_of_ble_eq_true rfl)) dX10_does_511 ⟨Nat.le_of_ble_eq_true rfl, Nat.le_of_ble_eq_true rfl⟩) hS (fun q _ h => hFc q h) hFc (fun u_248 t H1 locs ht hvm hw hB hz1 hk1 hS => ?_)
          obtain ⟨F_249, n_250⟩ := u_248
          obtain ⟨hP, hD, hI_251⟩ := hB
          have hI_251 : I10 kp F_249 n_250 := hI_251
          obtain ⟨b_252, b_253, b_254, b_255, b_256, b_257, b_258, b_259, b_260, b_261, b_262, b_263, i_264, i_265, i_266, i_267, i_268, i_269, i_270, j_271, j_272, j_273, j_274, j_275, j_276, j_277, j_278, j_279, j_280⟩ := id hI_251
          rw [ht] at hP
          have hD := hD.weaken (fun k q _ h => hFc _ h)
          generalize H1 = H at hP hS ⊢
          have hP : va_P (dC, dI) vwCl (w10 h0 X C (F_249 0) (F_249 1) (F_249 2) (F_249 3) (F_249 4) (F_249 5) (F_249 6) (F_249 7) (F_249 8) (F_249 10) (F_249 13) (F_249 14) (F_249 15) (F_249 16) (F_249 17) (F_249 18) (F_249 19) (F_249 20) (F_249 21) (F_249 22) (F_249 23) (F_249 24) (F_249 25) (F_249 26) (F_249 27) (F_249 28) (F_249 29) (F_249 30) (F_249 31) (F_249 32) (F_249 33) (F_249 34) (F_249 35) (F_249 36) (F_249 37) (F_249 38) (F_249 39) (F_249 40) (F_249 41) (F_249 42) (F_249 43) (F_249 49) (F_249 50) (F_249 51) (F_249 52) (F_249 53) (F_249 54) (F_249 55) (F_249 56) (F_249 57) (F_249 58) (F_249 59) (n_250 9) (n_250 11) (n_250 12) (n_250 44) (n_250 45) (n_250 46) (n_250 47) (n_250 48)) H := hP
          have hD : va_D A (w10 h0 X C (F_249 0) (F_249 1) (F_249 2) (F_249 3) (F_249 4) (F_249 5) (F_249 6) (F_249 7) (F_249 8) (F_249 10) (F_249 13) (F_249 14) (F_249 15) (F_249 16) (F_249 17) (F_249 18) (F_249 19) (F_249 20) (F_249 21) (F_249 22) (F_249 23) (F_249 24) (F_249 25) (F_249 26) (F_249 27) (F_249 28) (F_249 29) (F_249 30) (F_249 31) (F_249 32) (F_249 33) (F_249 34) (F_249 35) (F_249 36) (F_249 37) (F_249 38) (F_249 39) (F_249 40) (F_249 41) (F_249 42) (F_249 43) (F_249 49) (F_249 50) (F_249 51) (F_249 52) (F_249 53) (F_249 54) (F_249 55) (F_249 56) (F_249 57) (F_249 58) (F_249 59) (n_250 9) (n_250 11) (n_250 12) (n_250 44) (n_250 45) (n_250 46) (n_250 47) (n_250 48)) := hD
          have w_281 : ((n_211 11)).toInt ≤ (n_250 11).toInt := hw
          try simp only [upd_eq] at w_281
          exact W.vret hx hb hr (fun t ht hW => ⟨⟨(F_249, n_250), rfl, (by show (n 11).toInt ≤ ((n_250 11)).toInt; omega), by rw [ht]; exact hP, hD, I10_mono (k := kp) ⟨b_252, b_253, b_254, b_255, b_256, b_257, b_258, b_259, b_260, b_261, b_262, b_263, i_264, i_265, i_266, i_267, i_268, i_269, i_270, j_271, j_272, j_273, j_274, j_275, j_276, j_277, j_278, j_279, j_280⟩ (by omega)⟩, hS.F ht⟩) hS.2.2 dX10_does_514
      · refine lv_tableIn (tgt := 171) hx hb dX10_does_79 (by omega) (by omega) (by rw [sw_78]; rfl) (by decide) ?_
        refine lv_aload_n hx hb dX10_does_171 rfl (lv_at hl 4 rfl) ?_
        refine lv_iload_n hx hb dX10_does_172 rfl (lv_at hl 5 rfl) ?_
        refine lv_iload_n hx hb dX10_does_173 rfl (lv_at hl 2 rfl) ?_
        have hFc := free_all hD hS hA
        refine va_calli (va_runV (As := [.int v1, .int z_75]) (rest := []) ⟨hx, hb, hml, hown, hg⟩ (c_X10_frees l dC dI kp h0 X C F n v1 z_75 s.heap.size ⟨b_1, b_2, b_3, b_4, b_5, b_6, b_7, b_8, b_9, b_10, b_11, b_12, i_13, i_14, i_15, i_16, i_17, i_18, i_19, j_20, j_21, j_22, j_23, j_24, j_25, j_26, j_27, j_28, j_29⟩ (by omega)) (cwV 2 hg (gw_V gm_methodLink_RX10_239_yX10_frees gm_instanceMethod_yX10_frees gm_selects_RX10_yX10_frees_yX10_frees gm_initialized_RX10 gm_code_yX10_frees_cX10_frees_3_some_boolean_) rfl rfl rfl (by decide +kernel) ⟨Nat.le_of_ble_eq_true rfl, Nat.le_of_ble_eq_true rfl⟩) ⟨fun a U g mk q => by obtain ⟨q0, q1, qP, qK, qD, qN⟩ := q; exact ⟨q0, q1, qP, va_K.moved (u := U) (U := U.calling g mk a) (Vm.Alike.refl U.vm) qK, qD, nx_same (u := U) (U := U.calling g mk a) rfl qN⟩, va_recv hK hP (ci := 10) (q0 := 0) rfl rfl, fun U hU hW => ⟨rfl, by rw [hU], by rw [hU]; exact hP, va_K.moved hW.alike hK, hD.weaken (fun _ _ _ _ => trivial), nx_warm hW hN⟩⟩ rfl rfl hl.1 rfl (lv_room (Nat.le_of_ble_eq_true rfl)) dX10_does_174 ⟨Nat.le_of_ble_eq_true rfl, Nat.le_of_ble_eq_true rfl⟩) hS (fun q _ h => hFc q h) hFc (fun r_282 u_283 t H1 locs ht hvm hw hB hz1 hk1 hS => ?_)
        obtain ⟨F_284, n_285⟩ := u_283
        obtain ⟨hP, hD, hI_286⟩ := hB
        have hI_286 : I10 kp F_284 n_285 := hI_286
        obtain ⟨b_287, b_288, b_289, b_290, b_291, b_292, b_293, b_294, b_295, b_296, b_297, b_298, i_299, i_300, i_301, i_302, i_303, i_304, i_305, j_306, j_307, j_308, j_309, j_310, j_311, j_312, j_313, j_314, j_315⟩ := id hI_286
        rw [ht] at hP
        have hD := hD.weaken (fun k q _ h => hFc _ h)
        generalize H1 = H at hP hS ⊢
        have hP : va_P (dC, dI) vwCl (w10 h0 X C (F_284 0) (F_284 1) (F_284 2) (F_284 3) (F_284 4) (F_284 5) (F_284 6) (F_284 7) (F_284 8) (F_284 10) (F_284 13) (F_284 14) (F_284 15) (F_284 16) (F_284 17) (F_284 18) (F_284 19) (F_284 20) (F_284 21) (F_284 22) (F_284 23) (F_284 24) (F_284 25) (F_284 26) (F_284 27) (F_284 28) (F_284 29) (F_284 30) (F_284 31) (F_284 32) (F_284 33) (F_284 34) (F_284 35) (F_284 36) (F_284 37) (F_284 38) (F_284 39) (F_284 40) (F_284 41) (F_284 42) (F_284 43) (F_284 49) (F_284 50) (F_284 51) (F_284 52) (F_284 53) (F_284 54) (F_284 55) (F_284 56) (F_284 57) (F_284 58) (F_284 59) (n_285 9) (n_285 11) (n_285 12) (n_285 44) (n_285 45) (n_285 46) (n_285 47) (n_285 48)) H := hP
        have hD : va_D A (w10 h0 X C (F_284 0) (F_284 1) (F_284 2) (F_284 3) (F_284 4) (F_284 5) (F_284 6) (F_284 7) (F_284 8) (F_284 10) (F_284 13) (F_284 14) (F_284 15) (F_284 16) (F_284 17) (F_284 18) (F_284 19) (F_284 20) (F_284 21) (F_284 22) (F_284 23) (F_284 24) (F_284 25) (F_284 26) (F_284 27) (F_284 28) (F_284 29) (F_284 30) (F_284 31) (F_284 32) (F_284 33) (F_284 34) (F_284 35) (F_284 36) (F_284 37) (F_284 38) (F_284 39) (F_284 40) (F_284 41) (F_284 42) (F_284 43) (F_284 49) (F_284 50) (F_284 51) (F_284 52) (F_284 53) (F_284 54) (F_284 55) (F_284 56) (F_284 57) (F_284 58) (F_284 59) (n_285 9) (n_285 11) (n_285 12) (n_285 44) (n_285 45) (n_285 46) (n_285 47) (n_285 48)) := hD
        rcases hw with ⟨rfl, w_316⟩ | ⟨rfl, w_316⟩
        · have w_316 : (F_284 13 (Int32.toNatClampNeg v1)).toInt = ((F 13) (Int32.toNatClampNeg v1)).toInt ∧ (F_284 20 (Int32.toNatClampNeg v1)).toInt = ((F 20) (Int32.toNatClampNeg v1)).toInt ∧ (F_284 24 (Int32.toNatClampNeg v1)).toInt = ((F 24) (Int32.toNatClampNeg v1)).toInt ∧ ((n 11)).toInt ≤ (n_285 11).toInt := w_316
          try simp only [upd_eq] at w_316
          refine lv_istore (lv' := [(5, .int 1), (4, .int z_76), (3, .int z_75), (2, .int z_33), (0, .ref h0), (1, .int v1)]) hx hb dX10_does_177 hl (by decide) rfl (fun ls hl => ?_)
          refine lv_goto (tgt := 484) hx hb dX10_does_179 (by decide) ?_
          refine lv_iload hx hb dX10_does_484 (lv_at hl 0 rfl) ?_
          refine lv_if_eq (tgt := 506) hx hb dX10_does_486 (by decide) (fun c_317 => absurd c_317 (by decide)) (fun _ => ?_)
          refine lv_aload_n hx hb dX10_does_489 rfl (lv_at hl 4 rfl) ?_
          refine va_get (D := (dC, dI)) (ci := 10) (v := .ref (X 20)) (C := RX10) (T := TX10) (N := 60) hx hb hg gb_10 hown hK hP 0 rfl rfl 20 (by decide) (hg _ gm_fieldLink_RX10_66_ErrandGuildModel_place_AI_) (fun _ h9 => h9) rfl dX10_does_490 ?_
          refine lv_iload_n hx hb dX10_does_493 rfl (lv_at hl 5 rfl) ?_
          refine lv_aload_n hx hb dX10_does_494 rfl (lv_at hl 4 rfl) ?_
          refine va_get (D := (dC, dI)) (ci := 10) (v := .ref (X 20)) (C := RX10) (T := TX10) (N := 60) hx hb hg gb_10 hown hK hP 0 rfl rfl 20 (by decide) (hg _ gm_fieldLink_RX10_66_ErrandGuildModel_place_AI_) (fun _ h9 => h9) rfl dX10_does_495 ?_
          refine lv_iload_n hx hb dX10_does_498 rfl (lv_at hl 5 rfl) ?_
          refine va_iald (f := F_284 20) hx hb hK hP 18 17 rfl rfl (vp_in_iff.mpr ⟨by omega, by omega⟩) dX10_does_499 ?_
          refine lv_topi (fun z_318 ez_318 => ?_)
          have qz_318 := congrArg Int32.toInt ez_318
          have bz_318 := bd_at b_294 ez_318
          refine lv_iconst (v := 1) hx hb dX10_does_500 (by decide) ?_
          refine lv_iadd hx hb dX10_does_501 ?_
          refine lv_topi (fun z_319 ez_319 => ?_)
          have tz_319 : z_319.toInt = z_318.toInt + 1 := ar_add rfl ti_1 ez_319 (by omega)
          refine va_iast (f := F_284 20) hx hb hK hP hD hS 18 17 rfl rfl (vp_in_iff.mpr ⟨by omega, by omega⟩) dX10_does_502 (fun H locs hP hD hS => ?_)
          have hP : va_P (dC, dI) vwCl (w10 h0 X C (F_284 0) (F_284 1) (F_284 2) (F_284 3) (F_284 4) (F_284 5) (F_284 6) (F_284 7) (F_284 8) (F_284 10) (F_284 13) (F_284 14) (F_284 15) (F_284 16) (F_284 17) (F_284 18) (F_284 19) (upd (F_284 20) (Int32.toNatClampNeg v1) z_319) (F_284 21) (F_284 22) (F_284 23) (F_284 24) (F_284 25) (F_284 26) (F_284 27) (F_284 28) (F_284 29) (F_284 30) (F_284 31) (F_284 32) (F_284 33) (F_284 34) (F_284 35) (F_284 36) (F_284 37) (F_284 38) (F_284 39) (F_284 40) (F_284 41) (F_284 42) (F_284 43) (F_284 49) (F_284 50) (F_284 51) (F_284 52) (F_284 53) (F_284 54) (F_284 55) (F_284 56) (F_284 57) (F_284 58) (F_284 59) (n_285 9) (n_285 11) (n_285 12) (n_285 44) (n_285 45) (n_285 46) (n_285 47) (n_285 48)) H := hP
          have hD : va_D A (w10 h0 X C (F_284 0) (F_284 1) (F_284 2) (F_284 3) (F_284 4) (F_284 5) (F_284 6) (F_284 7) (F_284 8) (F_284 10) (F_284 13) (F_284 14) (F_284 15) (F_284 16) (F_284 17) (F_284 18) (F_284 19) (upd (F_284 20) (Int32.toNatClampNeg v1) z_319) (F_284 21) (F_284 22) (F_284 23) (F_284 24) (F_284 25) (F_284 26) (F_284 27) (F_284 28) (F_284 29) (F_284 30) (F_284 31) (F_284 32) (F_284 33) (F_284 34) (F_284 35) (F_284 36) (F_284 37) (F_284 38) (F_284 39) (F_284 40) (F_284 41) (F_284 42) (F_284 43) (F_284 49) (F_284 50) (F_284 51) (F_284 52) (F_284 53) (F_284 54) (F_284 55) (F_284 56) (F_284 57) (F_284 58) (F_284 59) (n_285 9) (n_285 11) (n_285 12) (n_285 44) (n_285 45) (n_285 46) (n_285 47) (n_285 48)) := hD
          have b_320 := bd_upd b_294 (Int32.toNatClampNeg v1) (x := z_319) (by omega) (by omega)
          have j_321 : J2 (F_284 39) (upd (F_284 20) (Int32.toNatClampNeg v1) z_319) := J2_pl j_308 (Int32.toNatClampNeg v1) (by have h_ := j_308 (Int32.toNatClampNeg v1); omega)
          have j_322 : J2 (F_284 36) (upd (F_284 20) (Int32.toNatClampNeg v1) z_319) := J2_pl j_309 (Int32.toNatClampNeg v1) (by have h_ := j_309 (Int32.toNatClampNeg v1); omega)
          have j_323 : J7 (F_284 24) (upd (F_284 20) (Int32.toNatClampNeg v1) z_319) := J7_pl j_313 (Int32.toNatClampNeg v1) (Or.inl (by omega))
          refine lv_goto (tgt := 514) hx hb dX10_does_503 (by decide) ?_
          exact W.vret hx hb hr (fun t ht hW => ⟨⟨((fun k => ([F_284 0, F_284 1, F_284 2, F_284 3, F_284 4, F_284 5, F_284 6, F_284 7, F_284 8, (fun _ => 0), F_284 10, (fun _ => 0), (fun _ => 0), F_284 13, F_284 14, F_284 15, F_284 16, F_284 17, F_284 18, F_284 19, upd (F_284 20) (Int32.toNatClampNeg v1) z_319, F_284 21, F_284 22, F_284 23, F_284 24, F_284 25, F_284 26, F_284 27, F_284 28, F_284 29, F_284 30, F_284 31, F_284 32, F_284 33, F_284 34, F_284 35, F_284 36, F_284 37, F_284 38, F_284 39, F_284 40, F_284 41, F_284 42, F_284 43, (fun _ => 0), (fun _ => 0), (fun _ => 0), (fun _ => 0), (fun _ => 0), F_284 49, F_284 50, F_284 51, F_284 52, F_284 53, F_284 54, F_284 55, F_284 56, F_284 57, F_284 58, F_284 59] : List (Nat → Int32)).getD k (fun _ => 0)), n_285), rfl, (by show (n 11).toInt ≤ ((n_285 11)).toInt; omega), by rw [ht]; exact hP, hD, I10_mono (k := kp) ⟨b_287, b_288, b_289, b_290, b_291, b_292, b_293, b_320, b_295, b_296, b_297, b_298, i_299, i_300, i_301, i_302, i_303, i_304, i_305, j_306, j_307, j_321, j_322, j_310, j_311, j_312, j_323, j_314, j_315⟩ (by omega)⟩, hS.F ht⟩) hS.2.2 dX10_does_514
        · have w_316 : (F_284 13 (Int32.toNatClampNeg v1)).toInt = ((F 13) (Int32.toNatClampNeg v1)).toInt ∧ (F_284 20 (Int32.toNatClampNeg v1)).toInt = ((F 20) (Int32.toNatClampNeg v1)).toInt ∧ (F_284 24 (Int32.toNatClampNeg v1)).toInt = ((F 24) (Int32.toNatClampNeg v1)).toInt ∧ ((n 11)).toInt ≤ (n_285 11).toInt := w_316
          try simp only [upd_eq] at w_316
          refine lv_istore (lv' := [(5, .int 0), (4, .int z_76), (3, .int z_75), (2, .int z_33), (0, .ref h0), (1, .int v1)]) hx hb dX10_does_177 hl (by decide) rfl (fun ls hl => ?_)
          refine lv_goto (tgt := 484) hx hb dX10_does_179 (by decide) ?_
          refine lv_iload hx hb dX10_does_484 (lv_at hl 0 rfl) ?_
          refine lv_if_eq (tgt := 506) hx hb dX10_does_486 (by decide) (fun _ => ?_) (fun c_324 => absurd c_324 (by decide))
          refine lv_aload_n hx hb dX10_does_506 rfl (lv_at hl 4 rfl) ?_
          refine lv_iload_n hx hb dX10_does_507 rfl (lv_at hl 5 rfl) ?_
          refine lv_iconst (v := 5) hx hb dX10_does_508 (by decide) ?_
          refine lv_iconst (v := -1) hx hb dX10_does_509 (by decide) ?_
          refine lv_iconst (v := 0) hx hb dX10_does_510 (by decide) ?_
          have hFc := free_all hD hS hA
          refine va_callv (va_runV (As := [.int v1, .int 5, .int (-1), .int 0]) (rest := []) ⟨hx, hb, hml, hown, hg⟩ (c_X10_fails l dC dI kp h0 X C F_284 n_285 v1 5 (-1) 0 H.size ⟨b_287, b_288, b_289, b_290, b_291, b_292, b_293, b_294, b_295, b_296, b_297, b_298, i_299, i_300, i_301, i_302, i_303, i_304, i_305, j_306, j_307, j_308, j_309, j_310, j_311, j_312, j_313, j_314, j_315⟩ (by have t_0 := ti_5; have t_1 := ti_m1; have t_2 := ti_0; omega) (by have t_0 := ti_5; have t_1 := ti_m1; have t_2 := ti_0; show v1.toInt < ((n_285 11)).toInt; omega) (by have t_0 := ti_5; have t_1 := ti_m1; have t_2 := ti_0; show ((F_284 13) (Int32.toNatClampNeg v1)).toInt = 1; omega) (by have t_0 := ti_5; have t_1 := ti_m1; have t_2 := ti_0; show ((F_284 24) (Int32.toNatClampNeg v1)).toInt = 0; omega) (by have t_0 := ti_5; have t_1 := ti_m1; have t_2 := ti_0; omega)) (cwV 4 hg (gw_V gm_methodLink_RX10_225_yX10_fails gm_instanceMethod_yX10_fails gm_selects_RX10_yX10_fails_yX10_fails gm_initialized_RX10 gm_code_yX10_fails_cX10_fails_6_none) rfl rfl rfl (by decide +kernel) ⟨Nat.le_of_ble_eq_true rfl, Nat.le_of_ble_eq_true rfl⟩) ⟨fun a U g mk q => by obtain ⟨q0, q1, qP, qK, qD, qN⟩ := q; exact ⟨q0, q1, qP, va_K.moved (u := U) (U := U.calling g mk a) (Vm.Alike.refl U.vm) qK, qD, nx_same (u := U) (U := U.calling g mk a) rfl qN⟩, va_recv hK hP (ci := 10) (q0 := 0) rfl rfl, fun U hU hW => ⟨rfl, by rw [hU], by rw [hU]; exact hP, va_K.moved hW.alike hK, hD.weaken (fun _ _ _ _ => trivial), nx_warm hW hN⟩⟩ rfl rfl hl.1 rfl (lv_room (Nat.le_of_ble_eq_true rfl)) dX10_does_511 ⟨Nat.le_of_ble_eq_true rfl, Nat.le_of_ble_eq_true rfl⟩) hS (fun q _ h => hFc q h) hFc (fun u_326 t H1 locs ht hvm hw hB hz1 hk1 hS => ?_)
          obtain ⟨F_327, n_328⟩ := u_326
          obtain ⟨hP, hD, hI_329⟩ := hB
          have hI_329 : I10 kp F_327 n_328 := hI_329
          obtain ⟨b_330, b_331, b_332, b_333, b_334, b_335, b_336, b_337, b_338, b_339, b_340, b_341, i_342, i_343, i_344, i_345, i_346, i_347, i_348, j_349, j_350, j_351, j_352, j_353, j_354, j_355, j_356, j_357, j_358⟩ := id hI_329
          rw [ht] at hP
          have hD := hD.weaken (fun k q _ h => hFc _ h)
          generalize H1 = H at hP hS ⊢
          have hP : va_P (dC, dI) vwCl (w10 h0 X C (F_327 0) (F_327 1) (F_327 2) (F_327 3) (F_327 4) (F_327 5) (F_327 6) (F_327 7) (F_327 8) (F_327 10) (F_327 13) (F_327 14) (F_327 15) (F_327 16) (F_327 17) (F_327 18) (F_327 19) (F_327 20) (F_327 21) (F_327 22) (F_327 23) (F_327 24) (F_327 25) (F_327 26) (F_327 27) (F_327 28) (F_327 29) (F_327 30) (F_327 31) (F_327 32) (F_327 33) (F_327 34) (F_327 35) (F_327 36) (F_327 37) (F_327 38) (F_327 39) (F_327 40) (F_327 41) (F_327 42) (F_327 43) (F_327 49) (F_327 50) (F_327 51) (F_327 52) (F_327 53) (F_327 54) (F_327 55) (F_327 56) (F_327 57) (F_327 58) (F_327 59) (n_328 9) (n_328 11) (n_328 12) (n_328 44) (n_328 45) (n_328 46) (n_328 47) (n_328 48)) H := hP
          have hD : va_D A (w10 h0 X C (F_327 0) (F_327 1) (F_327 2) (F_327 3) (F_327 4) (F_327 5) (F_327 6) (F_327 7) (F_327 8) (F_327 10) (F_327 13) (F_327 14) (F_327 15) (F_327 16) (F_327 17) (F_327 18) (F_327 19) (F_327 20) (F_327 21) (F_327 22) (F_327 23) (F_327 24) (F_327 25) (F_327 26) (F_327 27) (F_327 28) (F_327 29) (F_327 30) (F_327 31) (F_327 32) (F_327 33) (F_327 34) (F_327 35) (F_327 36) (F_327 37) (F_327 38) (F_327 39) (F_327 40) (F_327 41) (F_327 42) (F_327 43) (F_327 49) (F_327 50) (F_327 51) (F_327 52) (F_327 53) (F_327 54) (F_327 55) (F_327 56) (F_327 57) (F_327 58) (F_327 59) (n_328 9) (n_328 11) (n_328 12) (n_328 44) (n_328 45) (n_328 46) (n_328 47) (n_328 48)) := hD
          have w_359 : ((n_285 11)).toInt ≤ (n_328 11).toInt := hw
          try simp only [upd_eq] at w_359
          exact W.vret hx hb hr (fun t ht hW => ⟨⟨(F_327, n_328), rfl, (by show (n 11).toInt ≤ ((n_328 11)).toInt; omega), by rw [ht]; exact hP, hD, I10_mono (k := kp) ⟨b_330, b_331, b_332, b_333, b_334, b_335, b_336, b_337, b_338, b_339, b_340, b_341, i_342, i_343, i_344, i_345, i_346, i_347, i_348, j_349, j_350, j_351, j_352, j_353, j_354, j_355, j_356, j_357, j_358⟩ (by omega)⟩, hS.F ht⟩) hS.2.2 dX10_does_514
      · refine lv_tableIn (tgt := 182) hx hb dX10_does_79 (by omega) (by omega) (by rw [sw_78]; rfl) (by decide) ?_
        refine lv_aload_n hx hb dX10_does_182 rfl (lv_at hl 4 rfl) ?_
        refine lv_iload_n hx hb dX10_does_183 rfl (lv_at hl 5 rfl) ?_
        refine lv_iload_n hx hb dX10_does_184 rfl (lv_at hl 2 rfl) ?_
        refine lv_iload hx hb dX10_does_185 (lv_at hl 1 rfl) ?_
        refine lv_iconst (v := 1) hx hb dX10_does_187 (by decide) ?_
        refine lv_icmp_ne (tgt := 195) hx hb dX10_does_188 (by decide) (fun c_360 => ?_) (fun c_360 => ?_)
        · simp only [i_lt, i_le, i_eq, ti_1] at c_360
          refine lv_iconst (v := 0) hx hb dX10_does_195 (by decide) ?_
          have hFc := free_all hD hS hA
          refine va_calli (va_runV (As := [.int v1, .int z_75, .int 0]) (rest := []) ⟨hx, hb, hml, hown, hg⟩ (c_X10_hands l dC dI kp h0 X C F n v1 z_75 0 s.heap.size ⟨b_1, b_2, b_3, b_4, b_5, b_6, b_7, b_8, b_9, b_10, b_11, b_12, i_13, i_14, i_15, i_16, i_17, i_18, i_19, j_20, j_21, j_22, j_23, j_24, j_25, j_26, j_27, j_28, j_29⟩ (by have t_0 := ti_0; omega) (by have t_0 := ti_0; show v1.toInt < ((n 11)).toInt; omega) (by have t_0 := ti_0; show ((F 13) (Int32.toNatClampNeg v1)).toInt = 1; omega) (by have t_0 := ti_0; show ((F 24) (Int32.toNatClampNeg v1)).toInt = 0; omega) (by have t_0 := ti_0; omega)) (cwV 3 hg (gw_V gm_methodLink_RX10_243_yX10_hands gm_instanceMethod_yX10_hands gm_selects_RX10_yX10_hands_yX10_hands gm_initialized_RX10 gm_code_yX10_hands_cX10_hands_5_some_boolean_) rfl rfl rfl (by decide +kernel) ⟨Nat.le_of_ble_eq_true rfl, Nat.le_of_ble_eq_true rfl⟩) ⟨fun a U g mk q => by obtain ⟨q0, q1, qP, qK, qD, qN⟩ := q; exact ⟨q0, q1, qP, va_K.moved (u := U) (U := U.calling g mk a) (Vm.Alike.refl U.vm) qK, qD, nx_same (u := U) (U := U.calling g mk a) rfl qN⟩, va_recv hK hP (ci := 10) (q0 := 0) rfl rfl, fun U hU hW => ⟨rfl, by rw [hU], by rw [hU]; exact hP, va_K.moved hW.alike hK, hD.weaken (fun _ _ _ _ => trivial), nx_warm hW hN⟩⟩ rfl rfl hl.1 rfl (lv_room (Nat.le_of_ble_eq_true rfl)) dX10_does_196 ⟨Nat.le_of_ble_eq_true rfl, Nat.le_of_ble_eq_true rfl⟩) hS (fun q _ h => hFc q h) hFc (fun r_361 u_362 t H1 locs ht hvm hw hB hz1 hk1 hS => ?_)
          obtain ⟨F_363, n_364⟩ := u_362
          obtain ⟨hP, hD, hI_365⟩ := hB
          have hI_365 : I10 kp F_363 n_364 := hI_365
          obtain ⟨b_366, b_367, b_368, b_369, b_370, b_371, b_372, b_373, b_374, b_375, b_376, b_377, i_378, i_379, i_380, i_381, i_382, i_383, i_384, j_385, j_386, j_387, j_388, j_389, j_390, j_391, j_392, j_393, j_394⟩ := id hI_365
          rw [ht] at hP
          have hD := hD.weaken (fun k q _ h => hFc _ h)
          generalize H1 = H at hP hS ⊢
          have hP : va_P (dC, dI) vwCl (w10 h0 X C (F_363 0) (F_363 1) (F_363 2) (F_363 3) (F_363 4) (F_363 5) (F_363 6) (F_363 7) (F_363 8) (F_363 10) (F_363 13) (F_363 14) (F_363 15) (F_363 16) (F_363 17) (F_363 18) (F_363 19) (F_363 20) (F_363 21) (F_363 22) (F_363 23) (F_363 24) (F_363 25) (F_363 26) (F_363 27) (F_363 28) (F_363 29) (F_363 30) (F_363 31) (F_363 32) (F_363 33) (F_363 34) (F_363 35) (F_363 36) (F_363 37) (F_363 38) (F_363 39) (F_363 40) (F_363 41) (F_363 42) (F_363 43) (F_363 49) (F_363 50) (F_363 51) (F_363 52) (F_363 53) (F_363 54) (F_363 55) (F_363 56) (F_363 57) (F_363 58) (F_363 59) (n_364 9) (n_364 11) (n_364 12) (n_364 44) (n_364 45) (n_364 46) (n_364 47) (n_364 48)) H := hP
          have hD : va_D A (w10 h0 X C (F_363 0) (F_363 1) (F_363 2) (F_363 3) (F_363 4) (F_363 5) (F_363 6) (F_363 7) (F_363 8) (F_363 10) (F_363 13) (F_363 14) (F_363 15) (F_363 16) (F_363 17) (F_363 18) (F_363 19) (F_363 20) (F_363 21) (F_363 22) (F_363 23) (F_363 24) (F_363 25) (F_363 26) (F_363 27) (F_363 28) (F_363 29) (F_363 30) (F_363 31) (F_363 32) (F_363 33) (F_363 34) (F_363 35) (F_363 36) (F_363 37) (F_363 38) (F_363 39) (F_363 40) (F_363 41) (F_363 42) (F_363 43) (F_363 49) (F_363 50) (F_363 51) (F_363 52) (F_363 53) (F_363 54) (F_363 55) (F_363 56) (F_363 57) (F_363 58) (F_363 59) (n_364 9) (n_364 11) (n_364 12) (n_364 44) (n_364 45) (n_364 46) (n_364 47) (n_364 48)) := hD
          rcases hw with ⟨rfl, w_395⟩ | ⟨rfl, w_395⟩
          · have w_395 : (F_363 13 (Int32.toNatClampNeg v1)).toInt = ((F 13) (Int32.toNatClampNeg v1)).toInt ∧ (F_363 20 (Int32.toNatClampNeg v1)).toInt = ((F 20) (Int32.toNatClampNeg v1)).toInt ∧ (F_363 24 (Int32.toNatClampNeg v1)).toInt = ((F 24) (Int32.toNatClampNeg v1)).toInt ∧ ((n 11)).toInt ≤ (n_364 11).toInt := w_395
            try simp only [upd_eq] at w_395
            try simp only [ti_0] at w_395
            refine lv_if_ne (tgt := 203) hx hb dX10_does_199 (by decide) (fun _ => ?_) (fun c_396 => absurd c_396 (by decide))
            refine lv_iload hx hb dX10_does_203 (lv_at hl 1 rfl) ?_
            refine lv_iconst (v := 1) hx hb dX10_does_205 (by decide) ?_
            refine lv_icmp_ne (tgt := 484) hx hb dX10_does_206 (by decide) (fun c_397 => ?_) (fun c_397 => ?_)
            · simp only [i_lt, i_le, i_eq, ti_1] at c_397
              refine lv_iload hx hb dX10_does_484 (lv_at hl 0 rfl) ?_
              refine lv_if_eq (tgt := 506) hx hb dX10_does_486 (by decide) (fun c_398 => absurd c_398 (by decide)) (fun _ => ?_)
              refine lv_aload_n hx hb dX10_does_489 rfl (lv_at hl 4 rfl) ?_
              refine va_get (D := (dC, dI)) (ci := 10) (v := .ref (X 20)) (C := RX10) (T := TX10) (N := 60) hx hb hg gb_10 hown hK hP 0 rfl rfl 20 (by decide) (hg _ gm_fieldLink_RX10_66_ErrandGuildModel_place_AI_) (fun _ h9 => h9) rfl dX10_does_490 ?_
              refine lv_iload_n hx hb dX10_does_493 rfl (lv_at hl 5 rfl) ?_
              refine lv_aload_n hx hb dX10_does_494 rfl (lv_at hl 4 rfl) ?_
              refine va_get (D := (dC, dI)) (ci := 10) (v := .ref (X 20)) (C := RX10) (T := TX10) (N := 60) hx hb hg gb_10 hown hK hP 0 rfl rfl 20 (by decide) (hg _ gm_fieldLink_RX10_66_ErrandGuildModel_place_AI_) (fun _ h9 => h9) rfl dX10_does_495 ?_
              refine lv_iload_n hx hb dX10_does_498 rfl (lv_at hl 5 rfl) ?_
              refine va_iald (f := F_363 20) hx hb hK hP 18 17 rfl rfl (vp_in_iff.mpr ⟨by omega, by omega⟩) dX10_does_499 ?_
              refine lv_topi (fun z_399 ez_399 => ?_)
              have qz_399 := congrArg Int32.toInt ez_399
              have bz_399 := bd_at b_373 ez_399
              refine lv_iconst (v := 1) hx hb dX10_does_500 (by decide) ?_
              refine lv_iadd hx hb dX10_does_501 ?_
              refine lv_topi (fun z_400 ez_400 => ?_)
              have tz_400 : z_400.toInt = z_399.toInt + 1 := ar_add rfl ti_1 ez_400 (by omega)
              refine va_iast (f := F_363 20) hx hb hK hP hD hS 18 17 rfl rfl (vp_in_iff.mpr ⟨by omega, by omega⟩) dX10_does_502 (fun H locs hP hD hS => ?_)
              have hP : va_P (dC, dI) vwCl (w10 h0 X C (F_363 0) (F_363 1) (F_363 2) (F_363 3) (F_363 4) (F_363 5) (F_363 6) (F_363 7) (F_363 8) (F_363 10) (F_363 13) (F_363 14) (F_363 15) (F_363 16) (F_363 17) (F_363 18) (F_363 19) (upd (F_363 20) (Int32.toNatClampNeg v1) z_400) (F_363 21) (F_363 22) (F_363 23) (F_363 24) (F_363 25) (F_363 26) (F_363 27) (F_363 28) (F_363 29) (F_363 30) (F_363 31) (F_363 32) (F_363 33) (F_363 34) (F_363 35) (F_363 36) (F_363 37) (F_363 38) (F_363 39) (F_363 40) (F_363 41) (F_363 42) (F_363 43) (F_363 49) (F_363 50) (F_363 51) (F_363 52) (F_363 53) (F_363 54) (F_363 55) (F_363 56) (F_363 57) (F_363 58) (F_363 59) (n_364 9) (n_364 11) (n_364 12) (n_364 44) (n_364 45) (n_364 46) (n_364 47) (n_364 48)) H := hP
              have hD : va_D A (w10 h0 X C (F_363 0) (F_363 1) (F_363 2) (F_363 3) (F_363 4) (F_363 5) (F_363 6) (F_363 7) (F_363 8) (F_363 10) (F_363 13) (F_363 14) (F_363 15) (F_363 16) (F_363 17) (F_363 18) (F_363 19) (upd (F_363 20) (Int32.toNatClampNeg v1) z_400) (F_363 21) (F_363 22) (F_363 23) (F_363 24) (F_363 25) (F_363 26) (F_363 27) (F_363 28) (F_363 29) (F_363 30) (F_363 31) (F_363 32) (F_363 33) (F_363 34) (F_363 35) (F_363 36) (F_363 37) (F_363 38) (F_363 39) (F_363 40) (F_363 41) (F_363 42) (F_363 43) (F_363 49) (F_363 50) (F_363 51) (F_363 52) (F_363 53) (F_363 54) (F_363 55) (F_363 56) (F_363 57) (F_363 58) (F_363 59) (n_364 9) (n_364 11) (n_364 12) (n_364 44) (n_364 45) (n_364 46) (n_364 47) (n_364 48)) := hD
              have b_401 := bd_upd b_373 (Int32.toNatClampNeg v1) (x := z_400) (by omega) (by omega)
              have j_402 : J2 (F_363 39) (upd (F_363 20) (Int32.toNatClampNeg v1) z_400) := J2_pl j_387 (Int32.toNatClampNeg v1) (by have h_ := j_387 (Int32.toNatClampNeg v1); omega)
              have j_403 : J2 (F_363 36) (upd (F_363 20) (Int32.toNatClampNeg v1) z_400) := J2_pl j_388 (Int32.toNatClampNeg v1) (by have h_ := j_388 (Int32.toNatClampNeg v1); omega)
              have j_404 : J7 (F_363 24) (upd (F_363 20) (Int32.toNatClampNeg v1) z_400) := J7_pl j_392 (Int32.toNatClampNeg v1) (Or.inl (by omega))
              refine lv_goto (tgt := 514) hx hb dX10_does_503 (by decide) ?_
              exact W.vret hx hb hr (fun t ht hW => ⟨⟨((fun k => ([F_363 0, F_363 1, F_363 2, F_363 3, F_363 4, F_363 5, F_363 6, F_363 7, F_363 8, (fun _ => 0), F_363 10, (fun _ => 0), (fun _ => 0), F_363 13, F_363 14, F_363 15, F_363 16, F_363 17, F_363 18, F_363 19, upd (F_363 20) (Int32.toNatClampNeg v1) z_400, F_363 21, F_363 22, F_363 23, F_363 24, F_363 25, F_363 26, F_363 27, F_363 28, F_363 29, F_363 30, F_363 31, F_363 32, F_363 33, F_363 34, F_363 35, F_363 36, F_363 37, F_363 38, F_363 39, F_363 40, F_363 41, F_363 42, F_363 43, (fun _ => 0), (fun _ => 0), (fun _ => 0), (fun _ => 0), (fun _ => 0), F_363 49, F_363 50, F_363 51, F_363 52, F_363 53, F_363 54, F_363 55, F_363 56, F_363 57, F_363 58, F_363 59] : List (Nat → Int32)).getD k (fun _ => 0)), n_364), rfl, (by show (n 11).toInt ≤ ((n_364 11)).toInt; omega), by rw [ht]; exact hP, hD, I10_mono (k := kp) ⟨b_366, b_367, b_368, b_369, b_370, b_371, b_372, b_401, b_374, b_375, b_376, b_377, i_378, i_379, i_380, i_381, i_382, i_383, i_384, j_385, j_386, j_402, j_403, j_389, j_390, j_391, j_404, j_393, j_394⟩ (by omega)⟩, hS.F ht⟩) hS.2.2 dX10_does_514
            · simp only [i_lt, i_le, i_eq, ti_1] at c_397
              refine lv_aload_n hx hb dX10_does_209 rfl (lv_at hl 4 rfl) ?_
              refine lv_iload_n hx hb dX10_does_210 rfl (lv_at hl 5 rfl) ?_
              have hFc := free_all hD hS hA
              refine va_callv (va_runV (As := [.int v1]) (rest := []) ⟨hx, hb, hml, hown, hg⟩ (c_X10_waits l dC dI kp h0 X C F_363 n_364 v1 H.size ⟨b_366, b_367, b_368, b_369, b_370, b_371, b_372, b_373, b_374, b_375, b_376, b_377, i_378, i_379, i_380, i_381, i_382, i_383, i_384, j_385, j_386, j_387, j_388, j_389, j_390, j_391, j_392, j_393, j_394⟩ (by omega) (by show ((F_363 13) (Int32.toNatClampNeg v1)).toInt = 1; omega) (by show ((F_363 20) (Int32.toNatClampNeg v1)).toInt ≤ 23; omega)) (cwV 1 hg (gw_V gm_methodLink_RX10_247_yX10_waits gm_instanceMethod_yX10_waits gm_selects_RX10_yX10_waits_yX10_waits gm_initialized_RX10 gm_code_yX10_waits_cX10_waits_2_none) rfl rfl rfl (by decide +kernel) ⟨Nat.le_of_ble_eq_true rfl, Nat.le_of_ble_eq_true rfl⟩) ⟨fun a U g mk q => by obtain ⟨q0, q1, qP, qK, qD, qN⟩ := q; exact ⟨q0, q1, qP, va_K.moved (u := U) (U := U.calling g mk a) (Vm.Alike.refl U.vm) qK, qD, nx_same (u := U) (U := U.calling g mk a) rfl qN⟩, va_recv hK hP (ci := 10) (q0 := 0) rfl rfl, fun U hU hW => ⟨rfl, by rw [hU], by rw [hU]; exact hP, va_K.moved hW.alike hK, hD.weaken (fun _ _ _ _ => trivial), nx_warm hW hN⟩⟩ rfl rfl hl.1 rfl (lv_room (Nat.le_of_ble_eq_true rfl)) dX10_does_211 ⟨Nat.le_of_ble_eq_true rfl, Nat.le_of_ble_eq_true rfl⟩) hS (fun q _ h => hFc q h) hFc (fun u_406 t H1 locs ht hvm hw hB hz1 hk1 hS => ?_)
              obtain ⟨F_407, n_408⟩ := u_406
              obtain ⟨hP, hD, hI_409⟩ := hB
              have hI_409 : I10 kp F_407 n_408 := hI_409
              obtain ⟨b_410, b_411, b_412, b_413, b_414, b_415, b_416, b_417, b_418, b_419, b_420, b_421, i_422, i_423, i_424, i_425, i_426, i_427, i_428, j_429, j_430, j_431, j_432, j_433, j_434, j_435, j_436, j_437, j_438⟩ := id hI_409
              rw [ht] at hP
              have hD := hD.weaken (fun k q _ h => hFc _ h)
              generalize H1 = H at hP hS ⊢
              have hP : va_P (dC, dI) vwCl (w10 h0 X C (F_407 0) (F_407 1) (F_407 2) (F_407 3) (F_407 4) (F_407 5) (F_407 6) (F_407 7) (F_407 8) (F_407 10) (F_407 13) (F_407 14) (F_407 15) (F_407 16) (F_407 17) (F_407 18) (F_407 19) (F_407 20) (F_407 21) (F_407 22) (F_407 23) (F_407 24) (F_407 25) (F_407 26) (F_407 27) (F_407 28) (F_407 29) (F_407 30) (F_407 31) (F_407 32) (F_407 33) (F_407 34) (F_407 35) (F_407 36) (F_407 37) (F_407 38) (F_407 39) (F_407 40) (F_407 41) (F_407 42) (F_407 43) (F_407 49) (F_407 50) (F_407 51) (F_407 52) (F_407 53) (F_407 54) (F_407 55) (F_407 56) (F_407 57) (F_407 58) (F_407 59) (n_408 9) (n_408 11) (n_408 12) (n_408 44) (n_408 45) (n_408 46) (n_408 47) (n_408 48)) H := hP
              have hD : va_D A (w10 h0 X C (F_407 0) (F_407 1) (F_407 2) (F_407 3) (F_407 4) (F_407 5) (F_407 6) (F_407 7) (F_407 8) (F_407 10) (F_407 13) (F_407 14) (F_407 15) (F_407 16) (F_407 17) (F_407 18) (F_407 19) (F_407 20) (F_407 21) (F_407 22) (F_407 23) (F_407 24) (F_407 25) (F_407 26) (F_407 27) (F_407 28) (F_407 29) (F_407 30) (F_407 31) (F_407 32) (F_407 33) (F_407 34) (F_407 35) (F_407 36) (F_407 37) (F_407 38) (F_407 39) (F_407 40) (F_407 41) (F_407 42) (F_407 43) (F_407 49) (F_407 50) (F_407 51) (F_407 52) (F_407 53) (F_407 54) (F_407 55) (F_407 56) (F_407 57) (F_407 58) (F_407 59) (n_408 9) (n_408 11) (n_408 12) (n_408 44) (n_408 45) (n_408 46) (n_408 47) (n_408 48)) := hD
              have w_439 : ((n_364 11)).toInt ≤ (n_408 11).toInt := hw
              try simp only [upd_eq] at w_439
              exact W.vret hx hb hr (fun t ht hW => ⟨⟨(F_407, n_408), rfl, (by show (n 11).toInt ≤ ((n_408 11)).toInt; omega), by rw [ht]; exact hP, hD, I10_mono (k := kp) ⟨b_410, b_411, b_412, b_413, b_414, b_415, b_416, b_417, b_418, b_419, b_420, b_421, i_422, i_423, i_424, i_425, i_426, i_427, i_428, j_429, j_430, j_431, j_432, j_433, j_434, j_435, j_436, j_437, j_438⟩ (by omega)⟩, hS.F ht⟩) hS.2.2 dX10_does_214
          · have w_395 : ((n 11)).toInt ≤ (n_364 11).toInt := w_395
            try simp only [upd_eq] at w_395
            try simp only [ti_0] at w_395
            refine lv_if_ne (tgt := 203) hx hb dX10_does_199 (by decide) (fun c_440 => absurd c_440 (by decide)) (fun _ => ?_)
            exact W.vret hx hb hr (fun t ht hW => ⟨⟨(F_363, n_364), rfl, (by show (n 11).toInt ≤ ((n_364 11)).toInt; omega), by rw [ht]; exact hP, hD, I10_mono (k := kp) ⟨b_366, b_367, b_368, b_369, b_370, b_371, b_372, b_373, b_374, b_375, b_376, b_377, i_378, i_379, i_380, i_381, i_382, i_383, i_384, j_385, j_386, j_387, j_388, j_389, j_390, j_391, j_392, j_393, j_394⟩ (by omega)⟩, hS.F ht⟩) hS.2.2 dX10_does_202
        · simp only [i_lt, i_le, i_eq, ti_1] at c_360
          refine lv_iconst (v := 1) hx hb dX10_does_191 (by decide) ?_
          refine lv_goto (tgt := 196) hx hb dX10_does_192 (by decide) ?_
          have hFc := free_all hD hS hA
          refine va_calli (va_runV (As := [.int v1, .int z_75, .int 1]) (rest := []) ⟨hx, hb, hml, hown, hg⟩ (c_X10_hands l dC dI kp h0 X C F n v1 z_75 1 s.heap.size ⟨b_1, b_2, b_3, b_4, b_5, b_6, b_7, b_8, b_9, b_10, b_11, b_12, i_13, i_14, i_15, i_16, i_17, i_18, i_19, j_20, j_21, j_22, j_23, j_24, j_25, j_26, j_27, j_28, j_29⟩ (by have t_0 := ti_1; omega) (by have t_0 := ti_1; show v1.toInt < ((n 11)).toInt; omega) (by have t_0 := ti_1; show ((F 13) (Int32.toNatClampNeg v1)).toInt = 1; omega) (by have t_0 := ti_1; show ((F 24) (Int32.toNatClampNeg v1)).toInt = 0; omega) (by have t_0 := ti_1; omega)) (cwV 3 hg (gw_V gm_methodLink_RX10_243_yX10_hands gm_instanceMethod_yX10_hands gm_selects_RX10_yX10_hands_yX10_hands gm_initialized_RX10 gm_code_yX10_hands_cX10_hands_5_some_boolean_) rfl rfl rfl (by decide +kernel) ⟨Nat.le_of_ble_eq_true rfl, Nat.le_of_ble_eq_true rfl⟩) ⟨fun a U g mk q => by obtain ⟨q0, q1, qP, qK, qD, qN⟩ := q; exact ⟨q0, q1, qP, va_K.moved (u := U) (U := U.calling g mk a) (Vm.Alike.refl U.vm) qK, qD, nx_same (u := U) (U := U.calling g mk a) rfl qN⟩, va_recv hK hP (ci := 10) (q0 := 0) rfl rfl, fun U hU hW => ⟨rfl, by rw [hU], by rw [hU]; exact hP, va_K.moved hW.alike hK, hD.weaken (fun _ _ _ _ => trivial), nx_warm hW hN⟩⟩ rfl rfl hl.1 rfl (lv_room (Nat.le_of_ble_eq_true rfl)) dX10_does_196 ⟨Nat.le_of_ble_eq_true rfl, Nat.le_of_ble_eq_true rfl⟩) hS (fun q _ h => hFc q h) hFc (fun r_441 u_442 t H1 locs ht hvm hw hB hz1 hk1 hS => ?_)
          obtain ⟨F_443, n_444⟩ := u_442
          obtain ⟨hP, hD, hI_445⟩ := hB
          have hI_445 : I10 kp F_443 n_444 := hI_445
          obtain ⟨b_446, b_447, b_448, b_449, b_450, b_451, b_452, b_453, b_454, b_455, b_456, b_457, i_458, i_459, i_460, i_461, i_462, i_463, i_464, j_465, j_466, j_467, j_468, j_469, j_470, j_471, j_472, j_473, j_474⟩ := id hI_445
          rw [ht] at hP
          have hD := hD.weaken (fun k q _ h => hFc _ h)
          generalize H1 = H at hP hS ⊢
          have hP : va_P (dC, dI) vwCl (w10 h0 X C (F_443 0) (F_443 1) (F_443 2) (F_443 3) (F_443 4) (F_443 5) (F_443 6) (F_443 7) (F_443 8) (F_443 10) (F_443 13) (F_443 14) (F_443 15) (F_443 16) (F_443 17) (F_443 18) (F_443 19) (F_443 20) (F_443 21) (F_443 22) (F_443 23) (F_443 24) (F_443 25) (F_443 26) (F_443 27) (F_443 28) (F_443 29) (F_443 30) (F_443 31) (F_443 32) (F_443 33) (F_443 34) (F_443 35) (F_443 36) (F_443 37) (F_443 38) (F_443 39) (F_443 40) (F_443 41) (F_443 42) (F_443 43) (F_443 49) (F_443 50) (F_443 51) (F_443 52) (F_443 53) (F_443 54) (F_443 55) (F_443 56) (F_443 57) (F_443 58) (F_443 59) (n_444 9) (n_444 11) (n_444 12) (n_444 44) (n_444 45) (n_444 46) (n_444 47) (n_444 48)) H := hP
          have hD : va_D A (w10 h0 X C (F_443 0) (F_443 1) (F_443 2) (F_443 3) (F_443 4) (F_443 5) (F_443 6) (F_443 7) (F_443 8) (F_443 10) (F_443 13) (F_443 14) (F_443 15) (F_443 16) (F_443 17) (F_443 18) (F_443 19) (F_443 20) (F_443 21) (F_443 22) (F_443 23) (F_443 24) (F_443 25) (F_443 26) (F_443 27) (F_443 28) (F_443 29) (F_443 30) (F_443 31) (F_443 32) (F_443 33) (F_443 34) (F_443 35) (F_443 36) (F_443 37) (F_443 38) (F_443 39) (F_443 40) (F_443 41) (F_443 42) (F_443 43) (F_443 49) (F_443 50) (F_443 51) (F_443 52) (F_443 53) (F_443 54) (F_443 55) (F_443 56) (F_443 57) (F_443 58) (F_443 59) (n_444 9) (n_444 11) (n_444 12) (n_444 44) (n_444 45) (n_444 46) (n_444 47) (n_444 48)) := hD
          rcases hw with ⟨rfl, w_475⟩ | ⟨rfl, w_475⟩
          · have w_475 : (F_443 13 (Int32.toNatClampNeg v1)).toInt = ((F 13) (Int32.toNatClampNeg v1)).toInt ∧ (F_443 20 (Int32.toNatClampNeg v1)).toInt = ((F 20) (Int32.toNatClampNeg v1)).toInt ∧ (F_443 24 (Int32.toNatClampNeg v1)).toInt = ((F 24) (Int32.toNatClampNeg v1)).toInt ∧ ((n 11)).toInt ≤ (n_444 11).toInt := w_475
            try simp only [upd_eq] at w_475
            try simp only [ti_1] at w_475
            refine lv_if_ne (tgt := 203) hx hb dX10_does_199 (by decide) (fun _ => ?_) (fun c_476 => absurd c_476 (by decide))
            refine lv_iload hx hb dX10_does_203 (lv_at hl 1 rfl) ?_
            refine lv_iconst (v := 1) hx hb dX10_does_205 (by decide) ?_
            refine lv_icmp_ne (tgt := 484) hx hb dX10_does_206 (by decide) (fun c_477 => ?_) (fun c_477 => ?_)
            · simp only [i_lt, i_le, i_eq, ti_1] at c_477
              exfalso
              omega
            · simp only [i_lt, i_le, i_eq, ti_1] at c_477
              refine lv_aload_n hx hb dX10_does_209 rfl (lv_at hl 4 rfl) ?_
              refine lv_iload_n hx hb dX10_does_210 rfl (lv_at hl 5 rfl) ?_
              have hFc := free_all hD hS hA
              refine va_callv (va_runV (As := [.int v1]) (rest := []) ⟨hx, hb, hml, hown, hg⟩ (c_X10_waits l dC dI kp h0 X C F_443 n_444 v1 H.size ⟨b_446, b_447, b_448, b_449, b_450, b_451, b_452, b_453, b_454, b_455, b_456, b_457, i_458, i_459, i_460, i_461, i_462, i_463, i_464, j_465, j_466, j_467, j_468, j_469, j_470, j_471, j_472, j_473, j_474⟩ (by omega) (by show ((F_443 13) (Int32.toNatClampNeg v1)).toInt = 1; omega) (by show ((F_443 20) (Int32.toNatClampNeg v1)).toInt ≤ 23; omega)) (cwV 1 hg (gw_V gm_methodLink_RX10_247_yX10_waits gm_instanceMethod_yX10_waits gm_selects_RX10_yX10_waits_yX10_waits gm_initialized_RX10 gm_code_yX10_waits_cX10_waits_2_none) rfl rfl rfl (by decide +kernel) ⟨Nat.le_of_ble_eq_true rfl, Nat.le_of_ble_eq_true rfl⟩) ⟨fun a U g mk q => by obtain ⟨q0, q1, qP, qK, qD, qN⟩ := q; exact ⟨q0, q1, qP, va_K.moved (u := U) (U := U.calling g mk a) (Vm.Alike.refl U.vm) qK, qD, nx_same (u := U) (U := U.calling g mk a) rfl qN⟩, va_recv hK hP (ci := 10) (q0 := 0) rfl rfl, fun U hU hW => ⟨rfl, by rw [hU], by rw [hU]; exact hP, va_K.moved hW.alike hK, hD.weaken (fun _ _ _ _ => trivial), nx_warm hW hN⟩⟩ rfl rfl hl.1 rfl (lv_room (Nat.le_of_ble_eq_true rfl)) dX10_does_211 ⟨Nat.le_of_ble_eq_true rfl, Nat.le_of_ble_eq_true rfl⟩) hS (fun q _ h => hFc q h) hFc (fun u_479 t H1 locs ht hvm hw hB hz1 hk1 hS => ?_)
              obtain ⟨F_480, n_481⟩ := u_479
              obtain ⟨hP, hD, hI_482⟩ := hB
              have hI_482 : I10 kp F_480 n_481 := hI_482
              obtain ⟨b_483, b_484, b_485, b_486, b_487, b_488, b_489, b_490, b_491, b_492, b_493, b_494, i_495, i_496, i_497, i_498, i_499, i_500, i_501, j_502, j_503, j_504, j_505, j_506, j_507, j_508, j_509, j_510, j_511⟩ := id hI_482
              rw [ht] at hP
              have hD := hD.weaken (fun k q _ h => hFc _ h)
              generalize H1 = H at hP hS ⊢
              have hP : va_P (dC, dI) vwCl (w10 h0 X C (F_480 0) (F_480 1) (F_480 2) (F_480 3) (F_480 4) (F_480 5) (F_480 6) (F_480 7) (F_480 8) (F_480 10) (F_480 13) (F_480 14) (F_480 15) (F_480 16) (F_480 17) (F_480 18) (F_480 19) (F_480 20) (F_480 21) (F_480 22) (F_480 23) (F_480 24) (F_480 25) (F_480 26) (F_480 27) (F_480 28) (F_480 29) (F_480 30) (F_480 31) (F_480 32) (F_480 33) (F_480 34) (F_480 35) (F_480 36) (F_480 37) (F_480 38) (F_480 39) (F_480 40) (F_480 41) (F_480 42) (F_480 43) (F_480 49) (F_480 50) (F_480 51) (F_480 52) (F_480 53) (F_480 54) (F_480 55) (F_480 56) (F_480 57) (F_480 58) (F_480 59) (n_481 9) (n_481 11) (n_481 12) (n_481 44) (n_481 45) (n_481 46) (n_481 47) (n_481 48)) H := hP
              have hD : va_D A (w10 h0 X C (F_480 0) (F_480 1) (F_480 2) (F_480 3) (F_480 4) (F_480 5) (F_480 6) (F_480 7) (F_480 8) (F_480 10) (F_480 13) (F_480 14) (F_480 15) (F_480 16) (F_480 17) (F_480 18) (F_480 19) (F_480 20) (F_480 21) (F_480 22) (F_480 23) (F_480 24) (F_480 25) (F_480 26) (F_480 27) (F_480 28) (F_480 29) (F_480 30) (F_480 31) (F_480 32) (F_480 33) (F_480 34) (F_480 35) (F_480 36) (F_480 37) (F_480 38) (F_480 39) (F_480 40) (F_480 41) (F_480 42) (F_480 43) (F_480 49) (F_480 50) (F_480 51) (F_480 52) (F_480 53) (F_480 54) (F_480 55) (F_480 56) (F_480 57) (F_480 58) (F_480 59) (n_481 9) (n_481 11) (n_481 12) (n_481 44) (n_481 45) (n_481 46) (n_481 47) (n_481 48)) := hD
              have w_512 : ((n_444 11)).toInt ≤ (n_481 11).toInt := hw
              try simp only [upd_eq] at w_512
              exact W.vret hx hb hr (fun t ht hW => ⟨⟨(F_480, n_481), rfl, (by show (n 11).toInt ≤ ((n_481 11)).toInt; omega), by rw [ht]; exact hP, hD, I10_mono (k := kp) ⟨b_483, b_484, b_485, b_486, b_487, b_488, b_489, b_490, b_491, b_492, b_493, b_494, i_495, i_496, i_497, i_498, i_499, i_500, i_501, j_502, j_503, j_504, j_505, j_506, j_507, j_508, j_509, j_510, j_511⟩ (by omega)⟩, hS.F ht⟩) hS.2.2 dX10_does_214
          · have w_475 : ((n 11)).toInt ≤ (n_444 11).toInt := w_475
            try simp only [upd_eq] at w_475
            try simp only [ti_1] at w_475
            refine lv_if_ne (tgt := 203) hx hb dX10_does_199 (by decide) (fun c_513 => absurd c_513 (by decide)) (fun _ => ?_)
            exact W.vret hx hb hr (fun t ht hW => ⟨⟨(F_443, n_444), rfl, (by show (n 11).toInt ≤ ((n_444 11)).toInt; omega), by rw [ht]; exact hP, hD, I10_mono (k := kp) ⟨b_446, b_447, b_448, b_449, b_450, b_451, b_452, b_453, b_454, b_455, b_456, b_457, i_458, i_459, i_460, i_461, i_462, i_463, i_464, j_465, j_466, j_467, j_468, j_469, j_470, j_471, j_472, j_473, j_474⟩ (by omega)⟩, hS.F ht⟩) hS.2.2 dX10_does_202
      · refine lv_tableIn (tgt := 215) hx hb dX10_does_79 (by omega) (by omega) (by rw [sw_78]; rfl) (by decide) ?_
        refine lv_iconst (v := 0) hx hb dX10_does_215 (by decide) ?_
        refine lv_istore (lv' := [(6, .int 0), (5, .int 1), (4, .int z_76), (3, .int z_75), (2, .int z_33), (0, .ref h0), (1, .int v1)]) hx hb dX10_does_216 hl (by decide) rfl (fun ls hl => ?_)
        have L218 : ∀ (fuel : Nat) (x_514 : Int32) (F_515 : Nat → Nat → Int32) (n_516 : Nat → Int32) (hI_517 : I10 kp F_515 n_516) (H : Heap) (locs : List Loc) (ls : Array Slot), (z_76.toInt - x_514.toInt).toNat < fuel → ((((F_515 13) (Int32.toNatClampNeg v1)).toInt = 1)) → ((((F_515 20) (Int32.toNatClampNeg v1)).toInt = (F 20 (Int32.toNatClampNeg v1)).toInt)) → ((((F_515 24) (Int32.toNatClampNeg v1)).toInt = 0)) → (v1.toInt < (n_516 11).toInt) → (0 ≤ x_514.toInt) → ((n 11).toInt ≤ (n_516 11).toInt) → va_P (dC, dI) vwCl (w10 h0 X C (F_515 0) (F_515 1) (F_515 2) (F_515 3) (F_515 4) (F_515 5) (F_515 6) (F_515 7) (F_515 8) (F_515 10) (F_515 13) (F_515 14) (F_515 15) (F_515 16) (F_515 17) (F_515 18) (F_515 19) (F_515 20) (F_515 21) (F_515 22) (F_515 23) (F_515 24) (F_515 25) (F_515 26) (F_515 27) (F_515 28) (F_515 29) (F_515 30) (F_515 31) (F_515 32) (F_515 33) (F_515 34) (F_515 35) (F_515 36) (F_515 37) (F_515 38) (F_515 39) (F_515 40) (F_515 41) (F_515 42) (F_515 43) (F_515 49) (F_515 50) (F_515 51) (F_515 52) (F_515 53) (F_515 54) (F_515 55) (F_515 56) (F_515 57) (F_515 58) (F_515 59) (n_516 9) (n_516 11) (n_516 12) (n_516 44) (n_516 45) (n_516 46) (n_516 47) (n_516 48)) H → va_D A (w10 h0 X C (F_515 0) (F_515 1) (F_515 2) (F_515 3) (F_515 4) (F_515 5) (F_515 6) (F_515 7) (F_515 8) (F_515 10) (F_515 13) (F_515 14) (F_515 15) (F_515 16) (F_515 17) (F_515 18) (F_515 19) (F_515 20) (F_515 21) (F_515 22) (F_515 23) (F_515 24) (F_515 25) (F_515 26) (F_515 27) (F_515 28) (F_515 29) (F_515 30) (F_515 31) (F_515 32) (F_515 33) (F_515 34) (F_515 35) (F_515 36) (F_515 37) (F_515 38) (F_515 39) (F_515 40) (F_515 41) (F_515 42) (F_515 43) (F_515 49) (F_515 50) (F_515 51) (F_515 52) (F_515 53) (F_515 54) (F_515 55) (F_515 56) (F_515 57) (F_515 58) (F_515 59) (n_516 9) (n_516 11) (n_516 12) (n_516 44) (n_516 45) (n_516 46) (n_516 47) (n_516 48)) → va_S A s.heap H locs → lv_has ls 7 [(6, .int x_514), (5, .int 1), (4, .int z_76), (3, .int z_75), (2, .int z_33), (0, .ref h0), (1, .int v1)] → W p l e (headSpec (.code yX10_does cX10_does 7 none :: gw) ({ frames := 4, cells := 0, slots := 0, locals := 96 })).room s m ([.ref h0, .int v1] : List Value).toArray below meth c H locs 0 0 (MQ below (va_Qv (fun (u : (Nat → Nat → Int32) × (Nat → Int32)) => (n 11).toInt ≤ (u.2 11).toInt) (fun u t => va_P (dC, dI) vwCl (w10 h0 X C (u.1 0) (u.1 1) (u.1 2) (u.1 3) (u.1 4) (u.1 5) (u.1 6) (u.1 7) (u.1 8) (u.1 10) (u.1 13) (u.1 14) (u.1 15) (u.1 16) (u.1 17) (u.1 18) (u.1 19) (u.1 20) (u.1 21) (u.1 22) (u.1 23) (u.1 24) (u.1 25) (u.1 26) (u.1 27) (u.1 28) (u.1 29) (u.1 30) (u.1 31) (u.1 32) (u.1 33) (u.1 34) (u.1 35) (u.1 36) (u.1 37) (u.1 38) (u.1 39) (u.1 40) (u.1 41) (u.1 42) (u.1 43) (u.1 49) (u.1 50) (u.1 51) (u.1 52) (u.1 53) (u.1 54) (u.1 55) (u.1 56) (u.1 57) (u.1 58) (u.1 59) (u.2 9) (u.2 11) (u.2 12) (u.2 44) (u.2 45) (u.2 46) (u.2 47) (u.2 48)) t.heap ∧ va_D A (w10 h0 X C (u.1 0) (u.1 1) (u.1 2) (u.1 3) (u.1 4) (u.1 5) (u.1 6) (u.1 7) (u.1 8) (u.1 10) (u.1 13) (u.1 14) (u.1 15) (u.1 16) (u.1 17) (u.1 18) (u.1 19) (u.1 20) (u.1 21) (u.1 22) (u.1 23) (u.1 24) (u.1 25) (u.1 26) (u.1 27) (u.1 28) (u.1 29) (u.1 30) (u.1 31) (u.1 32) (u.1 33) (u.1 34) (u.1 35) (u.1 36) (u.1 37) (u.1 38) (u.1 39) (u.1 40) (u.1 41) (u.1 42) (u.1 43) (u.1 49) (u.1 50) (u.1 51) (u.1 52) (u.1 53) (u.1 54) (u.1 55) (u.1 56) (u.1 57) (u.1 58) (u.1 59) (u.2 9) (u.2 11) (u.2 12) (u.2 44) (u.2 45) (u.2 46) (u.2 47) (u.2 48)) ∧ I10 (kp + 1) u.1 u.2) A) ([.ref h0, .int v1] : List Value).toArray s 0 0 A) (F0 m 218 ls []) := by
          intro fuel
          induction fuel with
          | zero => intro x_514 F_515 n_516 hI_517 H locs ls hm; exact absurd hm (Nat.not_lt_zero _)
          | succ fuel_519 ih_518 =>
            intro x_514 F_515 n_516 hI_517 H locs ls hm_526 v_520 v_521 v_522 v_523 v_524 v_525 hP hD hS hl
            obtain ⟨b_527, b_528, b_529, b_530, b_531, b_532, b_533, b_534, b_535, b_536, b_537, b_538, i_539, i_540, i_541, i_542, i_543, i_544, i_545, j_546, j_547, j_548, j_549, j_550, j_551, j_552, j_553, j_554, j_555⟩ := id hI_517
            have ub4 := i_ub z_76
            refine lv_iload hx hb dX10_does_218 (lv_at hl 0 rfl) ?_
            refine lv_iload hx hb dX10_does_220 (lv_at hl 2 rfl) ?_
            refine lv_icmp_ge (tgt := 242) hx hb dX10_does_222 (by decide) (fun c_556 => ?_) (fun c_556 => ?_)
            · simp only [i_lt, i_le, i_eq] at c_556
              refine lv_goto (tgt := 484) hx hb dX10_does_242 (by decide) ?_
              refine lv_iload hx hb dX10_does_484 (lv_at hl 1 rfl) ?_
              refine lv_if_eq (tgt := 506) hx hb dX10_does_486 (by decide) (fun c_557 => absurd c_557 (by decide)) (fun _ => ?_)
              refine lv_aload_n hx hb dX10_does_489 rfl (lv_at hl 5 rfl) ?_
              refine va_get (D := (dC, dI)) (ci := 10) (v := .ref (X 20)) (C := RX10) (T := TX10) (N := 60) hx hb hg gb_10 hown hK hP 0 rfl rfl 20 (by decide) (hg _ gm_fieldLink_RX10_66_ErrandGuildModel_place_AI_) (fun _ h9 => h9) rfl dX10_does_490 ?_
              refine lv_iload_n hx hb dX10_does_493 rfl (lv_at hl 6 rfl) ?_
              refine lv_aload_n hx hb dX10_does_494 rfl (lv_at hl 5 rfl) ?_
              refine va_get (D := (dC, dI)) (ci := 10) (v := .ref (X 20)) (C := RX10) (T := TX10) (N := 60) hx hb hg gb_10 hown hK hP 0 rfl rfl 20 (by decide) (hg _ gm_fieldLink_RX10_66_ErrandGuildModel_place_AI_) (fun _ h9 => h9) rfl dX10_does_495 ?_
              refine lv_iload_n hx hb dX10_does_498 rfl (lv_at hl 6 rfl) ?_
              refine va_iald (f := F_515 20) hx hb hK hP 18 17 rfl rfl (vp_in_iff.mpr ⟨by omega, by omega⟩) dX10_does_499 ?_
              refine lv_topi (fun z_558 ez_558 => ?_)
              have qz_558 := congrArg Int32.toInt ez_558
              have bz_558 := bd_at b_534 ez_558
              refine lv_iconst (v := 1) hx hb dX10_does_500 (by decide) ?_
              refine lv_iadd hx hb dX10_does_501 ?_
              refine lv_topi (fun z_559 ez_559 => ?_)
              have tz_559 : z_559.toInt = z_558.toInt + 1 := ar_add rfl ti_1 ez_559 (by omega)
              refine va_iast (f := F_515 20) hx hb hK hP hD hS 18 17 rfl rfl (vp_in_iff.mpr ⟨by omega, by omega⟩) dX10_does_502 (fun H locs hP hD hS => ?_)
              have hP : va_P (dC, dI) vwCl (w10 h0 X C (F_515 0) (F_515 1) (F_515 2) (F_515 3) (F_515 4) (F_515 5) (F_515 6) (F_515 7) (F_515 8) (F_515 10) (F_515 13) (F_515 14) (F_515 15) (F_515 16) (F_515 17) (F_515 18) (F_515 19) (upd (F_515 20) (Int32.toNatClampNeg v1) z_559) (F_515 21) (F_515 22) (F_515 23) (F_515 24) (F_515 25) (F_515 26) (F_515 27) (F_515 28) (F_515 29) (F_515 30) (F_515 31) (F_515 32) (F_515 33) (F_515 34) (F_515 35) (F_515 36) (F_515 37) (F_515 38) (F_515 39) (F_515 40) (F_515 41) (F_515 42) (F_515 43) (F_515 49) (F_515 50) (F_515 51) (F_515 52) (F_515 53) (F_515 54) (F_515 55) (F_515 56) (F_515 57) (F_515 58) (F_515 59) (n_516 9) (n_516 11) (n_516 12) (n_516 44) (n_516 45) (n_516 46) (n_516 47) (n_516 48)) H := hP
              have hD : va_D A (w10 h0 X C (F_515 0) (F_515 1) (F_515 2) (F_515 3) (F_515 4) (F_515 5) (F_515 6) (F_515 7) (F_515 8) (F_515 10) (F_515 13) (F_515 14) (F_515 15) (F_515 16) (F_515 17) (F_515 18) (F_515 19) (upd (F_515 20) (Int32.toNatClampNeg v1) z_559) (F_515 21) (F_515 22) (F_515 23) (F_515 24) (F_515 25) (F_515 26) (F_515 27) (F_515 28) (F_515 29) (F_515 30) (F_515 31) (F_515 32) (F_515 33) (F_515 34) (F_515 35) (F_515 36) (F_515 37) (F_515 38) (F_515 39) (F_515 40) (F_515 41) (F_515 42) (F_515 43) (F_515 49) (F_515 50) (F_515 51) (F_515 52) (F_515 53) (F_515 54) (F_515 55) (F_515 56) (F_515 57) (F_515 58) (F_515 59) (n_516 9) (n_516 11) (n_516 12) (n_516 44) (n_516 45) (n_516 46) (n_516 47) (n_516 48)) := hD
              have b_560 := bd_upd b_534 (Int32.toNatClampNeg v1) (x := z_559) (by omega) (by omega)
              have j_561 : J2 (F_515 39) (upd (F_515 20) (Int32.toNatClampNeg v1) z_559) := J2_pl j_548 (Int32.toNatClampNeg v1) (by have h_ := j_548 (Int32.toNatClampNeg v1); omega)
              have j_562 : J2 (F_515 36) (upd (F_515 20) (Int32.toNatClampNeg v1) z_559) := J2_pl j_549 (Int32.toNatClampNeg v1) (by have h_ := j_549 (Int32.toNatClampNeg v1); omega)
              have j_563 : J7 (F_515 24) (upd (F_515 20) (Int32.toNatClampNeg v1) z_559) := J7_pl j_553 (Int32.toNatClampNeg v1) (Or.inl (by omega))
              refine lv_goto (tgt := 514) hx hb dX10_does_503 (by decide) ?_
              exact W.vret hx hb hr (fun t ht hW => ⟨⟨((fun k => ([F_515 0, F_515 1, F_515 2, F_515 3, F_515 4, F_515 5, F_515 6, F_515 7, F_515 8, (fun _ => 0), F_515 10, (fun _ => 0), (fun _ => 0), F_515 13, F_515 14, F_515 15, F_515 16, F_515 17, F_515 18, F_515 19, upd (F_515 20) (Int32.toNatClampNeg v1) z_559, F_515 21, F_515 22, F_515 23, F_515 24, F_515 25, F_515 26, F_515 27, F_515 28, F_515 29, F_515 30, F_515 31, F_515 32, F_515 33, F_515 34, F_515 35, F_515 36, F_515 37, F_515 38, F_515 39, F_515 40, F_515 41, F_515 42, F_515 43, (fun _ => 0), (fun _ => 0), (fun _ => 0), (fun _ => 0), (fun _ => 0), F_515 49, F_515 50, F_515 51, F_515 52, F_515 53, F_515 54, F_515 55, F_515 56, F_515 57, F_515 58, F_515 59] : List (Nat → Int32)).getD k (fun _ => 0)), n_516), rfl, (by show (n 11).toInt ≤ ((n_516 11)).toInt; omega), by rw [ht]; exact hP, hD, I10_mono (k := kp) ⟨b_527, b_528, b_529, b_530, b_531, b_532, b_533, b_560, b_535, b_536, b_537, b_538, i_539, i_540, i_541, i_542, i_543, i_544, i_545, j_546, j_547, j_561, j_562, j_550, j_551, j_552, j_563, j_554, j_555⟩ (by omega)⟩, hS.F ht⟩) hS.2.2 dX10_does_514
            · simp only [i_lt, i_le, i_eq] at c_556
              refine lv_aload_n hx hb dX10_does_225 rfl (lv_at hl 5 rfl) ?_
              refine lv_iload_n hx hb dX10_does_226 rfl (lv_at hl 6 rfl) ?_
              refine lv_iload_n hx hb dX10_does_227 rfl (lv_at hl 3 rfl) ?_
              refine lv_iconst (v := 0) hx hb dX10_does_228 (by decide) ?_
              have hFc := free_all hD hS hA
              refine va_calli (va_runV (As := [.int v1, .int z_75, .int 0]) (rest := []) ⟨hx, hb, hml, hown, hg⟩ (c_X10_hands l dC dI kp h0 X C F_515 n_516 v1 z_75 0 H.size ⟨b_527, b_528, b_529, b_530, b_531, b_532, b_533, b_534, b_535, b_536, b_537, b_538, i_539, i_540, i_541, i_542, i_543, i_544, i_545, j_546, j_547, j_548, j_549, j_550, j_551, j_552, j_553, j_554, j_555⟩ (by have t_0 := ti_0; omega) (by have t_0 := ti_0; show v1.toInt < ((n_516 11)).toInt; omega) (by have t_0 := ti_0; show ((F_515 13) (Int32.toNatClampNeg v1)).toInt = 1; omega) (by have t_0 := ti_0; show ((F_515 24) (Int32.toNatClampNeg v1)).toInt = 0; omega) (by have t_0 := ti_0; omega)) (cwV 3 hg (gw_V gm_methodLink_RX10_243_yX10_hands gm_instanceMethod_yX10_hands gm_selects_RX10_yX10_hands_yX10_hands gm_initialized_RX10 gm_code_yX10_hands_cX10_hands_5_some_boolean_) rfl rfl rfl (by decide +kernel) ⟨Nat.le_of_ble_eq_true rfl, Nat.le_of_ble_eq_true rfl⟩) ⟨fun a U g mk q => by obtain ⟨q0, q1, qP, qK, qD, qN⟩ := q; exact ⟨q0, q1, qP, va_K.moved (u := U) (U := U.calling g mk a) (Vm.Alike.refl U.vm) qK, qD, nx_same (u := U) (U := U.calling g mk a) rfl qN⟩, va_recv hK hP (ci := 10) (q0 := 0) rfl rfl, fun U hU hW => ⟨rfl, by rw [hU], by rw [hU]; exact hP, va_K.moved hW.alike hK, hD.weaken (fun _ _ _ _ => trivial), nx_warm hW hN⟩⟩ rfl rfl hl.1 rfl (lv_room (Nat.le_of_ble_eq_true rfl)) dX10_does_229 ⟨Nat.le_of_ble_eq_true rfl, Nat.le_of_ble_eq_true rfl⟩) hS (fun q _ h => hFc q h) hFc (fun r_564 u_565 t H1 locs ht hvm hw hB hz1 hk1 hS => ?_)
              obtain ⟨F_566, n_567⟩ := u_565
              obtain ⟨hP, hD, hI_568⟩ := hB
              have hI_568 : I10 kp F_566 n_567 := hI_568
              obtain ⟨b_569, b_570, b_571, b_572, b_573, b_574, b_575, b_576, b_577, b_578, b_579, b_580, i_581, i_582, i_583, i_584, i_585, i_586, i_587, j_588, j_589, j_590, j_591, j_592, j_593, j_594, j_595, j_596, j_597⟩ := id hI_568
              rw [ht] at hP
              have hD := hD.weaken (fun k q _ h => hFc _ h)
              generalize H1 = H at hP hS ⊢
              have hP : va_P (dC, dI) vwCl (w10 h0 X C (F_566 0) (F_566 1) (F_566 2) (F_566 3) (F_566 4) (F_566 5) (F_566 6) (F_566 7) (F_566 8) (F_566 10) (F_566 13) (F_566 14) (F_566 15) (F_566 16) (F_566 17) (F_566 18) (F_566 19) (F_566 20) (F_566 21) (F_566 22) (F_566 23) (F_566 24) (F_566 25) (F_566 26) (F_566 27) (F_566 28) (F_566 29) (F_566 30) (F_566 31) (F_566 32) (F_566 33) (F_566 34) (F_566 35) (F_566 36) (F_566 37) (F_566 38) (F_566 39) (F_566 40) (F_566 41) (F_566 42) (F_566 43) (F_566 49) (F_566 50) (F_566 51) (F_566 52) (F_566 53) (F_566 54) (F_566 55) (F_566 56) (F_566 57) (F_566 58) (F_566 59) (n_567 9) (n_567 11) (n_567 12) (n_567 44) (n_567 45) (n_567 46) (n_567 47) (n_567 48)) H := hP
              have hD : va_D A (w10 h0 X C (F_566 0) (F_566 1) (F_566 2) (F_566 3) (F_566 4) (F_566 5) (F_566 6) (F_566 7) (F_566 8) (F_566 10) (F_566 13) (F_566 14) (F_566 15) (F_566 16) (F_566 17) (F_566 18) (F_566 19) (F_566 20) (F_566 21) (F_566 22) (F_566 23) (F_566 24) (F_566 25) (F_566 26) (F_566 27) (F_566 28) (F_566 29) (F_566 30) (F_566 31) (F_566 32) (F_566 33) (F_566 34) (F_566 35) (F_566 36) (F_566 37) (F_566 38) (F_566 39) (F_566 40) (F_566 41) (F_566 42) (F_566 43) (F_566 49) (F_566 50) (F_566 51) (F_566 52) (F_566 53) (F_566 54) (F_566 55) (F_566 56) (F_566 57) (F_566 58) (F_566 59) (n_567 9) (n_567 11) (n_567 12) (n_567 44) (n_567 45) (n_567 46) (n_567 47) (n_567 48)) := hD
              rcases hw with ⟨rfl, w_598⟩ | ⟨rfl, w_598⟩
              · have w_598 : (F_566 13 (Int32.toNatClampNeg v1)).toInt = ((F_515 13) (Int32.toNatClampNeg v1)).toInt ∧ (F_566 20 (Int32.toNatClampNeg v1)).toInt = ((F_515 20) (Int32.toNatClampNeg v1)).toInt ∧ (F_566 24 (Int32.toNatClampNeg v1)).toInt = ((F_515 24) (Int32.toNatClampNeg v1)).toInt ∧ ((n_516 11)).toInt ≤ (n_567 11).toInt := w_598
                try simp only [upd_eq] at w_598
                try simp only [ti_0] at w_598
                refine lv_if_ne (tgt := 236) hx hb dX10_does_232 (by decide) (fun _ => ?_) (fun c_599 => absurd c_599 (by decide))
                obtain ⟨y_600, ey_600⟩ : ∃ q : Int32, q = x_514 + (1) := ⟨_, rfl⟩
                refine lv_iinc (v := y_600) (lv' := [(6, .int y_600), (5, .int 1), (4, .int z_76), (3, .int z_75), (2, .int z_33), (0, .ref h0), (1, .int v1)]) hx hb dX10_does_236 hl (k := 0) rfl (by rw [ey_600]; rfl) (by decide) rfl (fun ls hl => ?_)
                have ty_600 : y_600.toInt = x_514.toInt + (1) := ar_add rfl ti_1 ey_600 (by omega)
                refine lv_goto (tgt := 218) hx hb dX10_does_239 (by decide) ?_
                exact ih_518 y_600 F_566 n_567 (I10_mono (k := kp) ⟨b_569, b_570, b_571, b_572, b_573, b_574, b_575, b_576, b_577, b_578, b_579, b_580, i_581, i_582, i_583, i_584, i_585, i_586, i_587, j_588, j_589, j_590, j_591, j_592, j_593, j_594, j_595, j_596, j_597⟩ (by omega)) H locs ls (by omega) (by show (((F_566 13) (Int32.toNatClampNeg v1)).toInt = 1); omega) (by show (((F_566 20) (Int32.toNatClampNeg v1)).toInt = (F 20 (Int32.toNatClampNeg v1)).toInt); omega) (by show (((F_566 24) (Int32.toNatClampNeg v1)).toInt = 0); omega) (by show v1.toInt < (n_567 11).toInt; omega) (by omega) (by show (n 11).toInt ≤ (n_567 11).toInt; omega) hP hD hS (lv_sub hl [0, 1, 2, 3, 4, 5, 6] rfl)
              · have w_598 : ((n_516 11)).toInt ≤ (n_567 11).toInt := w_598
                try simp only [upd_eq] at w_598
                try simp only [ti_0] at w_598
                refine lv_if_ne (tgt := 236) hx hb dX10_does_232 (by decide) (fun c_601 => absurd c_601 (by decide)) (fun _ => ?_)
                exact W.vret hx hb hr (fun t ht hW => ⟨⟨(F_566, n_567), rfl, (by show (n 11).toInt ≤ ((n_567 11)).toInt; omega), by rw [ht]; exact hP, hD, I10_mono (k := kp) ⟨b_569, b_570, b_571, b_572, b_573, b_574, b_575, b_576, b_577, b_578, b_579, b_580, i_581, i_582, i_583, i_584, i_585, i_586, i_587, j_588, j_589, j_590, j_591, j_592, j_593, j_594, j_595, j_596, j_597⟩ (by omega)⟩, hS.F ht⟩) hS.2.2 dX10_does_235
        exact L218 _ (0) F n (I10_mono (k := kp) ⟨b_1, b_2, b_3, b_4, b_5, b_6, b_7, b_8, b_9, b_10, b_11, b_12, i_13, i_14, i_15, i_16, i_17, i_18, i_19, j_20, j_21, j_22, j_23, j_24, j_25, j_26, j_27, j_28, j_29⟩ (by have t_0 := ti_0; omega)) _ _ _ (Nat.lt_succ_self _) (by have t_0 := ti_0; show (((F 13) (Int32.toNatClampNeg v1)).toInt = 1); omega) (by have t_0 := ti_0; show (((F 20) (Int32.toNatClampNeg v1)).toInt = (F 20 (Int32.toNatClampNeg v1)).toInt); omega) (by have t_0 := ti_0; show (((F 24) (Int32.toNatClampNeg v1)).toInt = 0); omega) (by have t_0 := ti_0; show v1.toInt < (n 11).toInt; omega) (by have t_0 := ti_0; omega) (by have t_0 := ti_0; show (n 11).toInt ≤ (n 11).toInt; omega) hP hD hS (lv_sub hl [0, 1, 2, 3, 4, 5, 6] rfl)
      · refine lv_tableIn (tgt := 245) hx hb dX10_does_79 (by omega) (by omega) (by rw [sw_78]; rfl) (by decide) ?_
        refine lv_iload_n hx hb dX10_does_245 rfl (lv_at hl 5 rfl) ?_
        refine lv_iconst (v := 1) hx hb dX10_does_246 (by decide) ?_
        refine lv_iadd hx hb dX10_does_247 ?_
        refine lv_topi (fun z_602 ez_602 => ?_)
        have tz_602 : z_602.toInt = v1.toInt + 1 := ar_add rfl ti_1 ez_602 (by omega)
        refine lv_istore (lv' := [(6, .int z_602), (5, .int 1), (4, .int z_76), (3, .int z_75), (2, .int z_33), (0, .ref h0), (1, .int v1)]) hx hb dX10_does_248 hl (by decide) rfl (fun ls hl => ?_)
        have L250 : ∀ (fuel : Nat) (x_603 : Int32) (f_604 : Nat → Int32) (H : Heap) (locs : List Loc) (ls : Array Slot), (201 - x_603.toInt).toNat < fuel → (1 ≤ x_603.toInt ∧ x_603.toInt ≤ 200) → va_P (dC, dI) vwCl (w10 h0 X C (F 0) (F 1) (F 2) (F 3) (F 4) (F 5) (F 6) (F 7) (F 8) (F 10) (F 13) (F 14) (F 15) (F 16) (F 17) (F 18) (F 19) (F 20) (F 21) (F 22) (F 23) (F 24) (F 25) (F 26) f_604 (F 28) (F 29) (F 30) (F 31) (F 32) (F 33) (F 34) (F 35) (F 36) (F 37) (F 38) (F 39) (F 40) (F 41) (F 42) (F 43) (F 49) (F 50) (F 51) (F 52) (F 53) (F 54) (F 55) (F 56) (F 57) (F 58) (F 59) (n 9) (n 11) (n 12) (n 44) (n 45) (n 46) (n 47) (n 48)) H → va_D A (w10 h0 X C (F 0) (F 1) (F 2) (F 3) (F 4) (F 5) (F 6) (F 7) (F 8) (F 10) (F 13) (F 14) (F 15) (F 16) (F 17) (F 18) (F 19) (F 20) (F 21) (F 22) (F 23) (F 24) (F 25) (F 26) f_604 (F 28) (F 29) (F 30) (F 31) (F 32) (F 33) (F 34) (F 35) (F 36) (F 37) (F 38) (F 39) (F 40) (F 41) (F 42) (F 43) (F 49) (F 50) (F 51) (F 52) (F 53) (F 54) (F 55) (F 56) (F 57) (F 58) (F 59) (n 9) (n 11) (n 12) (n 44) (n 45) (n 46) (n 47) (n 48)) → va_S A s.heap H locs → lv_has ls 7 [(6, .int x_603), (5, .int 1), (4, .int z_76), (3, .int z_75), (2, .int z_33), (0, .ref h0), (1, .int v1)] → W p l e (headSpec (.code yX10_does cX10_does 7 none :: gw) ({ frames := 4, cells := 0, slots := 0, locals := 96 })).room s m ([.ref h0, .int v1] : List Value).toArray below meth c H locs 0 0 (MQ below (va_Qv (fun (u : (Nat → Nat → Int32) × (Nat → Int32)) => (n 11).toInt ≤ (u.2 11).toInt) (fun u t => va_P (dC, dI) vwCl (w10 h0 X C (u.1 0) (u.1 1) (u.1 2) (u.1 3) (u.1 4) (u.1 5) (u.1 6) (u.1 7) (u.1 8) (u.1 10) (u.1 13) (u.1 14) (u.1 15) (u.1 16) (u.1 17) (u.1 18) (u.1 19) (u.1 20) (u.1 21) (u.1 22) (u.1 23) (u.1 24) (u.1 25) (u.1 26) (u.1 27) (u.1 28) (u.1 29) (u.1 30) (u.1 31) (u.1 32) (u.1 33) (u.1 34) (u.1 35) (u.1 36) (u.1 37) (u.1 38) (u.1 39) (u.1 40) (u.1 41) (u.1 42) (u.1 43) (u.1 49) (u.1 50) (u.1 51) (u.1 52) (u.1 53) (u.1 54) (u.1 55) (u.1 56) (u.1 57) (u.1 58) (u.1 59) (u.2 9) (u.2 11) (u.2 12) (u.2 44) (u.2 45) (u.2 46) (u.2 47) (u.2 48)) t.heap ∧ va_D A (w10 h0 X C (u.1 0) (u.1 1) (u.1 2) (u.1 3) (u.1 4) (u.1 5) (u.1 6) (u.1 7) (u.1 8) (u.1 10) (u.1 13) (u.1 14) (u.1 15) (u.1 16) (u.1 17) (u.1 18) (u.1 19) (u.1 20) (u.1 21) (u.1 22) (u.1 23) (u.1 24) (u.1 25) (u.1 26) (u.1 27) (u.1 28) (u.1 29) (u.1 30) (u.1 31) (u.1 32) (u.1 33) (u.1 34) (u.1 35) (u.1 36) (u.1 37) (u.1 38) (u.1 39) (u.1 40) (u.1 41) (u.1 42) (u.1 43) (u.1 49) (u.1 50) (u.1 51) (u.1 52) (u.1 53) (u.1 54) (u.1 55) (u.1 56) (u.1 57) (u.1 58) (u.1 59) (u.2 9) (u.2 11) (u.2 12) (u.2 44) (u.2 45) (u.2 46) (u.2 47) (u.2 48)) ∧ I10 (kp + 1) u.1 u.2) A) ([.ref h0, .int v1] : List Value).toArray s 0 0 A) (F0 m 250 ls []) := by
          intro fuel
          induction fuel with
          | zero => intro x_603 f_604 H locs ls hm; exact absurd hm (Nat.not_lt_zero _)
          | succ fuel_606 ih_605 =>
            intro x_603 f_604 H locs ls hm_608 v_607 hP hD hS hl
            refine lv_iload hx hb dX10_does_250 (lv_at hl 0 rfl) ?_
            refine lv_aload_n hx hb dX10_does_252 rfl (lv_at hl 5 rfl) ?_
            refine va_get (D := (dC, dI)) (ci := 10) (v := .int (n 11)) (C := RX10) (T := TX10) (N := 60) hx hb hg gb_10 hown hK hP 0 rfl rfl 11 (by decide) (hg _ gm_fieldLink_RX10_176_ErrandGuildModel_runs_I_) (fun _ h9 => h9) rfl dX10_does_253 ?_
            refine lv_icmp_ge (tgt := 294) hx hb dX10_does_256 (by decide) (fun c_609 => ?_) (fun c_609 => ?_)
            · simp only [i_lt, i_le, i_eq] at c_609
              refine lv_aload_n hx hb dX10_does_294 rfl (lv_at hl 5 rfl) ?_
              refine lv_iload_n hx hb dX10_does_295 rfl (lv_at hl 6 rfl) ?_
              have hFc := free_all hD hS hA
              refine va_calli (va_runV (As := [.int v1]) (rest := []) ⟨hx, hb, hml, hown, hg⟩ (c_X10_areOver l dC dI kp h0 X C (fun k => ([F 0, F 1, F 2, F 3, F 4, F 5, F 6, F 7, F 8, (fun _ => 0), F 10, (fun _ => 0), (fun _ => 0), F 13, F 14, F 15, F 16, F 17, F 18, F 19, F 20, F 21, F 22, F 23, F 24, F 25, F 26, f_604, F 28, F 29, F 30, F 31, F 32, F 33, F 34, F 35, F 36, F 37, F 38, F 39, F 40, F 41, F 42, F 43, (fun _ => 0), (fun _ => 0), (fun _ => 0), (fun _ => 0), (fun _ => 0), F 49, F 50, F 51, F 52, F 53, F 54, F 55, F 56, F 57, F 58, F 59] : List (Nat → Int32)).getD k (fun _ => 0)) n v1 H.size ⟨b_1, b_2, b_3, b_4, b_5, b_6, b_7, b_8, b_9, b_10, b_11, b_12, i_13, i_14, i_15, i_16, i_17, i_18, i_19, j_20, j_21, j_22, j_23, j_24, j_25, j_26, j_27, j_28, j_29⟩ (by omega)) (cwV 1 hg (gw_V gm_methodLink_RX10_250_yX10_areOver gm_instanceMethod_yX10_areOver gm_selects_RX10_yX10_areOver_yX10_areOver gm_initialized_RX10 gm_code_yX10_areOver_cX10_areOver_4_some_boolean_) rfl rfl rfl (by decide +kernel) ⟨Nat.le_of_ble_eq_true rfl, Nat.le_of_ble_eq_true rfl⟩) ⟨fun a U g mk q => by obtain ⟨q0, q1, qP, qK, qD, qN⟩ := q; exact ⟨q0, q1, qP, va_K.moved (u := U) (U := U.calling g mk a) (Vm.Alike.refl U.vm) qK, qD, nx_same (u := U) (U := U.calling g mk a) rfl qN⟩, va_recv hK hP (ci := 10) (q0 := 0) rfl rfl, fun U hU hW => ⟨rfl, by rw [hU], by rw [hU]; exact hP, va_K.moved hW.alike hK, hD.weaken (fun _ _ _ _ => trivial), nx_warm hW hN⟩⟩ rfl rfl hl.1 rfl (lv_room (Nat.le_of_ble_eq_true rfl)) dX10_does_296 ⟨Nat.le_of_ble_eq_true rfl, Nat.le_of_ble_eq_true rfl⟩) hS (fun q _ h => hFc q h) hFc (fun r_610 u_611 t H1 locs ht hvm hw hB hz1 hk1 hS => ?_)
              obtain ⟨hP, hD⟩ := hB
              rw [ht] at hP
              have hD := hD.weaken (fun k q _ h => hFc _ h)
              generalize H1 = H at hP hS ⊢
              have hP : va_P (dC, dI) vwCl (w10 h0 X C (F 0) (F 1) (F 2) (F 3) (F 4) (F 5) (F 6) (F 7) (F 8) (F 10) (F 13) (F 14) (F 15) (F 16) (F 17) (F 18) (F 19) (F 20) (F 21) (F 22) (F 23) (F 24) (F 25) (F 26) f_604 (F 28) (F 29) (F 30) (F 31) (F 32) (F 33) (F 34) (F 35) (F 36) (F 37) (F 38) (F 39) (F 40) (F 41) (F 42) (F 43) (F 49) (F 50) (F 51) (F 52) (F 53) (F 54) (F 55) (F 56) (F 57) (F 58) (F 59) (n 9) (n 11) (n 12) (n 44) (n 45) (n 46) (n 47) (n 48)) H := hP
              have hD : va_D A (w10 h0 X C (F 0) (F 1) (F 2) (F 3) (F 4) (F 5) (F 6) (F 7) (F 8) (F 10) (F 13) (F 14) (F 15) (F 16) (F 17) (F 18) (F 19) (F 20) (F 21) (F 22) (F 23) (F 24) (F 25) (F 26) f_604 (F 28) (F 29) (F 30) (F 31) (F 32) (F 33) (F 34) (F 35) (F 36) (F 37) (F 38) (F 39) (F 40) (F 41) (F 42) (F 43) (F 49) (F 50) (F 51) (F 52) (F 53) (F 54) (F 55) (F 56) (F 57) (F 58) (F 59) (n 9) (n 11) (n 12) (n 44) (n 45) (n 46) (n 47) (n 48)) := hD
              rcases hw with ⟨rfl, w_612⟩ | ⟨rfl, w_612⟩
              · refine lv_if_eq (tgt := 310) hx hb dX10_does_299 (by decide) (fun c_613 => absurd c_613 (by decide)) (fun _ => ?_)
                refine lv_aload_n hx hb dX10_does_302 rfl (lv_at hl 5 rfl) ?_
                refine lv_iload_n hx hb dX10_does_303 rfl (lv_at hl 6 rfl) ?_
                have hFc := free_all hD hS hA
                refine va_callv (va_runV (As := [.int v1]) (rest := []) ⟨hx, hb, hml, hown, hg⟩ (c_X10_gathers l dC dI kp h0 X C (fun k => ([F 0, F 1, F 2, F 3, F 4, F 5, F 6, F 7, F 8, (fun _ => 0), F 10, (fun _ => 0), (fun _ => 0), F 13, F 14, F 15, F 16, F 17, F 18, F 19, F 20, F 21, F 22, F 23, F 24, F 25, F 26, f_604, F 28, F 29, F 30, F 31, F 32, F 33, F 34, F 35, F 36, F 37, F 38, F 39, F 40, F 41, F 42, F 43, (fun _ => 0), (fun _ => 0), (fun _ => 0), (fun _ => 0), (fun _ => 0), F 49, F 50, F 51, F 52, F 53, F 54, F 55, F 56, F 57, F 58, F 59] : List (Nat → Int32)).getD k (fun _ => 0)) n v1 H.size ⟨b_1, b_2, b_3, b_4, b_5, b_6, b_7, b_8, b_9, b_10, b_11, b_12, i_13, i_14, i_15, i_16, i_17, i_18, i_19, j_20, j_21, j_22, j_23, j_24, j_25, j_26, j_27, j_28, j_29⟩ (by omega) (by show v1.toInt < ((n 11)).toInt; omega) (by show ((F 13) (Int32.toNatClampNeg v1)).toInt = 1; omega) (by show ((F 24) (Int32.toNatClampNeg v1)).toInt = 0; omega) (by show ((F 20) (Int32.toNatClampNeg v1)).toInt ≤ 23; omega)) (cwV 1 hg (gw_V gm_methodLink_RX10_253_yX10_gathers gm_instanceMethod_yX10_gathers gm_selects_RX10_yX10_gathers_yX10_gathers gm_initialized_RX10 gm_code_yX10_gathers_cX10_gathers_5_none) rfl rfl rfl (by decide +kernel) ⟨Nat.le_of_ble_eq_true rfl, Nat.le_of_ble_eq_true rfl⟩) ⟨fun a U g mk q => by obtain ⟨q0, q1, qP, qK, qD, qN⟩ := q; exact ⟨q0, q1, qP, va_K.moved (u := U) (U := U.calling g mk a) (Vm.Alike.refl U.vm) qK, qD, nx_same (u := U) (U := U.calling g mk a) rfl qN⟩, va_recv hK hP (ci := 10) (q0 := 0) rfl rfl, fun U hU hW => ⟨rfl, by rw [hU], by rw [hU]; exact hP, va_K.moved hW.alike hK, hD.weaken (fun _ _ _ _ => trivial), nx_warm hW hN⟩⟩ rfl rfl hl.1 rfl (lv_room (Nat.le_of_ble_eq_true rfl)) dX10_does_304 ⟨Nat.le_of_ble_eq_true rfl, Nat.le_of_ble_eq_true rfl⟩) hS (fun q _ h => hFc q h) hFc (fun u_615 t H1 locs ht hvm hw hB hz1 hk1 hS => ?_)
                obtain ⟨F_616, n_617⟩ := u_615
                obtain ⟨hP, hD, hI_618⟩ := hB
                have hI_618 : I10 kp F_616 n_617 := hI_618
                obtain ⟨b_619, b_620, b_621, b_622, b_623, b_624, b_625, b_626, b_627, b_628, b_629, b_630, i_631, i_632, i_633, i_634, i_635, i_636, i_637, j_638, j_639, j_640, j_641, j_642, j_643, j_644, j_645, j_646, j_647⟩ := id hI_618
                rw [ht] at hP
                have hD := hD.weaken (fun k q _ h => hFc _ h)
                generalize H1 = H at hP hS ⊢
                have hP : va_P (dC, dI) vwCl (w10 h0 X C (F_616 0) (F_616 1) (F_616 2) (F_616 3) (F_616 4) (F_616 5) (F_616 6) (F_616 7) (F_616 8) (F_616 10) (F_616 13) (F_616 14) (F_616 15) (F_616 16) (F_616 17) (F_616 18) (F_616 19) (F_616 20) (F_616 21) (F_616 22) (F_616 23) (F_616 24) (F_616 25) (F_616 26) (F_616 27) (F_616 28) (F_616 29) (F_616 30) (F_616 31) (F_616 32) (F_616 33) (F_616 34) (F_616 35) (F_616 36) (F_616 37) (F_616 38) (F_616 39) (F_616 40) (F_616 41) (F_616 42) (F_616 43) (F_616 49) (F_616 50) (F_616 51) (F_616 52) (F_616 53) (F_616 54) (F_616 55) (F_616 56) (F_616 57) (F_616 58) (F_616 59) (n_617 9) (n_617 11) (n_617 12) (n_617 44) (n_617 45) (n_617 46) (n_617 47) (n_617 48)) H := hP
                have hD : va_D A (w10 h0 X C (F_616 0) (F_616 1) (F_616 2) (F_616 3) (F_616 4) (F_616 5) (F_616 6) (F_616 7) (F_616 8) (F_616 10) (F_616 13) (F_616 14) (F_616 15) (F_616 16) (F_616 17) (F_616 18) (F_616 19) (F_616 20) (F_616 21) (F_616 22) (F_616 23) (F_616 24) (F_616 25) (F_616 26) (F_616 27) (F_616 28) (F_616 29) (F_616 30) (F_616 31) (F_616 32) (F_616 33) (F_616 34) (F_616 35) (F_616 36) (F_616 37) (F_616 38) (F_616 39) (F_616 40) (F_616 41) (F_616 42) (F_616 43) (F_616 49) (F_616 50) (F_616 51) (F_616 52) (F_616 53) (F_616 54) (F_616 55) (F_616 56) (F_616 57) (F_616 58) (F_616 59) (n_617 9) (n_617 11) (n_617 12) (n_617 44) (n_617 45) (n_617 46) (n_617 47) (n_617 48)) := hD
                have w_648 : ((n 11)).toInt ≤ (n_617 11).toInt := hw
                try simp only [upd_eq] at w_648
                refine lv_goto (tgt := 315) hx hb dX10_does_307 (by decide) ?_
                exact W.vret hx hb hr (fun t ht hW => ⟨⟨(F_616, n_617), rfl, (by show (n 11).toInt ≤ ((n_617 11)).toInt; omega), by rw [ht]; exact hP, hD, I10_mono (k := kp) ⟨b_619, b_620, b_621, b_622, b_623, b_624, b_625, b_626, b_627, b_628, b_629, b_630, i_631, i_632, i_633, i_634, i_635, i_636, i_637, j_638, j_639, j_640, j_641, j_642, j_643, j_644, j_645, j_646, j_647⟩ (by omega)⟩, hS.F ht⟩) hS.2.2 dX10_does_315
              · refine lv_if_eq (tgt := 310) hx hb dX10_does_299 (by decide) (fun _ => ?_) (fun c_649 => absurd c_649 (by decide))
                refine lv_aload_n hx hb dX10_does_310 rfl (lv_at hl 5 rfl) ?_
                refine lv_iload_n hx hb dX10_does_311 rfl (lv_at hl 6 rfl) ?_
                have hFc := free_all hD hS hA
                refine va_callv (va_runV (As := [.int v1]) (rest := []) ⟨hx, hb, hml, hown, hg⟩ (c_X10_waits l dC dI kp h0 X C (fun k => ([F 0, F 1, F 2, F 3, F 4, F 5, F 6, F 7, F 8, (fun _ => 0), F 10, (fun _ => 0), (fun _ => 0), F 13, F 14, F 15, F 16, F 17, F 18, F 19, F 20, F 21, F 22, F 23, F 24, F 25, F 26, f_604, F 28, F 29, F 30, F 31, F 32, F 33, F 34, F 35, F 36, F 37, F 38, F 39, F 40, F 41, F 42, F 43, (fun _ => 0), (fun _ => 0), (fun _ => 0), (fun _ => 0), (fun _ => 0), F 49, F 50, F 51, F 52, F 53, F 54, F 55, F 56, F 57, F 58, F 59] : List (Nat → Int32)).getD k (fun _ => 0)) n v1 H.size ⟨b_1, b_2, b_3, b_4, b_5, b_6, b_7, b_8, b_9, b_10, b_11, b_12, i_13, i_14, i_15, i_16, i_17, i_18, i_19, j_20, j_21, j_22, j_23, j_24, j_25, j_26, j_27, j_28, j_29⟩ (by omega) (by show ((F 13) (Int32.toNatClampNeg v1)).toInt = 1; omega) (by show ((F 20) (Int32.toNatClampNeg v1)).toInt ≤ 23; omega)) (cwV 1 hg (gw_V gm_methodLink_RX10_247_yX10_waits gm_instanceMethod_yX10_waits gm_selects_RX10_yX10_waits_yX10_waits gm_initialized_RX10 gm_code_yX10_waits_cX10_waits_2_none) rfl rfl rfl (by decide +kernel) ⟨Nat.le_of_ble_eq_true rfl, Nat.le_of_ble_eq_true rfl⟩) ⟨fun a U g mk q => by obtain ⟨q0, q1, qP, qK, qD, qN⟩ := q; exact ⟨q0, q1, qP, va_K.moved (u := U) (U := U.calling g mk a) (Vm.Alike.refl U.vm) qK, qD, nx_same (u := U) (U := U.calling g mk a) rfl qN⟩, va_recv hK hP (ci := 10) (q0 := 0) rfl rfl, fun U hU hW => ⟨rfl, by rw [hU], by rw [hU]; exact hP, va_K.moved hW.alike hK, hD.weaken (fun _ _ _ _ => trivial), nx_warm hW hN⟩⟩ rfl rfl hl.1 rfl (lv_room (Nat.le_of_ble_eq_true rfl)) dX10_does_312 ⟨Nat.le_of_ble_eq_true rfl, Nat.le_of_ble_eq_true rfl⟩) hS (fun q _ h => hFc q h) hFc (fun u_651 t H1 locs ht hvm hw hB hz1 hk1 hS => ?_)
                obtain ⟨F_652, n_653⟩ := u_651
                obtain ⟨hP, hD, hI_654⟩ := hB
                have hI_654 : I10 kp F_652 n_653 := hI_654
                obtain ⟨b_655, b_656, b_657, b_658, b_659, b_660, b_661, b_662, b_663, b_664, b_665, b_666, i_667, i_668, i_669, i_670, i_671, i_672, i_673, j_674, j_675, j_676, j_677, j_678, j_679, j_680, j_681, j_682, j_683⟩ := id hI_654
                rw [ht] at hP
                have hD := hD.weaken (fun k q _ h => hFc _ h)
                generalize H1 = H at hP hS ⊢
                have hP : va_P (dC, dI) vwCl (w10 h0 X C (F_652 0) (F_652 1) (F_652 2) (F_652 3) (F_652 4) (F_652 5) (F_652 6) (F_652 7) (F_652 8) (F_652 10) (F_652 13) (F_652 14) (F_652 15) (F_652 16) (F_652 17) (F_652 18) (F_652 19) (F_652 20) (F_652 21) (F_652 22) (F_652 23) (F_652 24) (F_652 25) (F_652 26) (F_652 27) (F_652 28) (F_652 29) (F_652 30) (F_652 31) (F_652 32) (F_652 33) (F_652 34) (F_652 35) (F_652 36) (F_652 37) (F_652 38) (F_652 39) (F_652 40) (F_652 41) (F_652 42) (F_652 43) (F_652 49) (F_652 50) (F_652 51) (F_652 52) (F_652 53) (F_652 54) (F_652 55) (F_652 56) (F_652 57) (F_652 58) (F_652 59) (n_653 9) (n_653 11) (n_653 12) (n_653 44) (n_653 45) (n_653 46) (n_653 47) (n_653 48)) H := hP
                have hD : va_D A (w10 h0 X C (F_652 0) (F_652 1) (F_652 2) (F_652 3) (F_652 4) (F_652 5) (F_652 6) (F_652 7) (F_652 8) (F_652 10) (F_652 13) (F_652 14) (F_652 15) (F_652 16) (F_652 17) (F_652 18) (F_652 19) (F_652 20) (F_652 21) (F_652 22) (F_652 23) (F_652 24) (F_652 25) (F_652 26) (F_652 27) (F_652 28) (F_652 29) (F_652 30) (F_652 31) (F_652 32) (F_652 33) (F_652 34) (F_652 35) (F_652 36) (F_652 37) (F_652 38) (F_652 39) (F_652 40) (F_652 41) (F_652 42) (F_652 43) (F_652 49) (F_652 50) (F_652 51) (F_652 52) (F_652 53) (F_652 54) (F_652 55) (F_652 56) (F_652 57) (F_652 58) (F_652 59) (n_653 9) (n_653 11) (n_653 12) (n_653 44) (n_653 45) (n_653 46) (n_653 47) (n_653 48)) := hD
                have w_684 : ((n 11)).toInt ≤ (n_653 11).toInt := hw
                try simp only [upd_eq] at w_684
                exact W.vret hx hb hr (fun t ht hW => ⟨⟨(F_652, n_653), rfl, (by show (n 11).toInt ≤ ((n_653 11)).toInt; omega), by rw [ht]; exact hP, hD, I10_mono (k := kp) ⟨b_655, b_656, b_657, b_658, b_659, b_660, b_661, b_662, b_663, b_664, b_665, b_666, i_667, i_668, i_669, i_670, i_671, i_672, i_673, j_674, j_675, j_676, j_677, j_678, j_679, j_680, j_681, j_682, j_683⟩ (by omega)⟩, hS.F ht⟩) hS.2.2 dX10_does_315
            · simp only [i_lt, i_le, i_eq] at c_609
              refine lv_aload_n hx hb dX10_does_259 rfl (lv_at hl 5 rfl) ?_
              refine va_get (D := (dC, dI)) (ci := 10) (v := .ref (X 15)) (C := RX10) (T := TX10) (N := 60) hx hb hg gb_10 hown hK hP 0 rfl rfl 15 (by decide) (hg _ gm_fieldLink_RX10_51_ErrandGuildModel_giver_AI_) (fun _ h9 => h9) rfl dX10_does_260 ?_
              refine lv_iload hx hb dX10_does_263 (lv_at hl 0 rfl) ?_
              refine va_iald (f := F 15) hx hb hK hP 13 12 rfl rfl (vp_in_iff.mpr ⟨by omega, by omega⟩) dX10_does_265 ?_
              refine lv_topi (fun z_685 ez_685 => ?_)
              have qz_685 := congrArg Int32.toInt ez_685
              have bz_685 := bd_at b_5 ez_685
              refine lv_iload_n hx hb dX10_does_266 rfl (lv_at hl 6 rfl) ?_
              refine lv_icmp_ne (tgt := 288) hx hb dX10_does_267 (by decide) (fun c_686 => ?_) (fun c_686 => ?_)
              · simp only [i_lt, i_le, i_eq] at c_686
                obtain ⟨y_687, ey_687⟩ : ∃ q : Int32, q = x_603 + (1) := ⟨_, rfl⟩
                refine lv_iinc (v := y_687) (lv' := [(6, .int y_687), (5, .int 1), (4, .int z_76), (3, .int z_75), (2, .int z_33), (0, .ref h0), (1, .int v1)]) hx hb dX10_does_288 hl (k := 0) rfl (by rw [ey_687]; rfl) (by decide) rfl (fun ls hl => ?_)
                have ty_687 : y_687.toInt = x_603.toInt + (1) := ar_add rfl ti_1 ey_687 (by omega)
                refine lv_goto (tgt := 250) hx hb dX10_does_291 (by decide) ?_
                exact ih_605 y_687 f_604  H locs ls (by omega) (by omega) hP hD hS (lv_sub hl [0, 1, 2, 3, 4, 5, 6] rfl)
              · simp only [i_lt, i_le, i_eq] at c_686
                refine lv_aload_n hx hb dX10_does_270 rfl (lv_at hl 5 rfl) ?_
                refine va_get (D := (dC, dI)) (ci := 10) (v := .ref (X 26)) (C := RX10) (T := TX10) (N := 60) hx hb hg gb_10 hown hK hP 0 rfl rfl 26 (by decide) (hg _ gm_fieldLink_RX10_84_ErrandGuildModel_wasWaited_AZ_) (fun _ h9 => h9) rfl dX10_does_271 ?_
                refine lv_iload hx hb dX10_does_274 (lv_at hl 0 rfl) ?_
                refine va_zald (f := F 26) hx hb hK hP 24 23 rfl rfl (vp_in_iff.mpr ⟨by omega, by omega⟩) dX10_does_276 ?_
                refine lv_topi (fun z_688 ez_688 => ?_)
                have qz_688 := congrArg Int32.toInt ez_688
                refine lv_if_ne (tgt := 288) hx hb dX10_does_277 (by decide) (fun c_689 => ?_) (fun c_689 => ?_)
                · simp only [i_lt, i_le, i_eq, ti_0] at c_689
                  obtain ⟨y_690, ey_690⟩ : ∃ q : Int32, q = x_603 + (1) := ⟨_, rfl⟩
                  refine lv_iinc (v := y_690) (lv' := [(6, .int y_690), (5, .int 1), (4, .int z_76), (3, .int z_75), (2, .int z_33), (0, .ref h0), (1, .int v1)]) hx hb dX10_does_288 hl (k := 0) rfl (by rw [ey_690]; rfl) (by decide) rfl (fun ls hl => ?_)
                  have ty_690 : y_690.toInt = x_603.toInt + (1) := ar_add rfl ti_1 ey_690 (by omega)
                  refine lv_goto (tgt := 250) hx hb dX10_does_291 (by decide) ?_
                  exact ih_605 y_690 f_604  H locs ls (by omega) (by omega) hP hD hS (lv_sub hl [0, 1, 2, 3, 4, 5, 6] rfl)
                · simp only [i_lt, i_le, i_eq, ti_0] at c_689
                  refine lv_aload_n hx hb dX10_does_280 rfl (lv_at hl 5 rfl) ?_
                  refine va_get (D := (dC, dI)) (ci := 10) (v := .ref (X 27)) (C := RX10) (T := TX10) (N := 60) hx hb hg gb_10 hown hK hP 0 rfl rfl 27 (by decide) (hg _ gm_fieldLink_RX10_87_ErrandGuildModel_isAwaited_AZ_) (fun _ h9 => h9) rfl dX10_does_281 ?_
                  refine lv_iload hx hb dX10_does_284 (lv_at hl 0 rfl) ?_
                  refine lv_iconst (v := 1) hx hb dX10_does_286 (by decide) ?_
                  refine va_zast (f := f_604) hx hb hK hP hD hS 25 24 rfl rfl (vp_in_iff.mpr ⟨by omega, by omega⟩) dX10_does_287 (fun H locs hP hD hS => ?_)
                  have hP : va_P (dC, dI) vwCl (w10 h0 X C (F 0) (F 1) (F 2) (F 3) (F 4) (F 5) (F 6) (F 7) (F 8) (F 10) (F 13) (F 14) (F 15) (F 16) (F 17) (F 18) (F 19) (F 20) (F 21) (F 22) (F 23) (F 24) (F 25) (F 26) (upd f_604 (Int32.toNatClampNeg x_603) (vp_nar .boolean 1)) (F 28) (F 29) (F 30) (F 31) (F 32) (F 33) (F 34) (F 35) (F 36) (F 37) (F 38) (F 39) (F 40) (F 41) (F 42) (F 43) (F 49) (F 50) (F 51) (F 52) (F 53) (F 54) (F 55) (F 56) (F 57) (F 58) (F 59) (n 9) (n 11) (n 12) (n 44) (n 45) (n 46) (n 47) (n 48)) H := hP
                  have hD : va_D A (w10 h0 X C (F 0) (F 1) (F 2) (F 3) (F 4) (F 5) (F 6) (F 7) (F 8) (F 10) (F 13) (F 14) (F 15) (F 16) (F 17) (F 18) (F 19) (F 20) (F 21) (F 22) (F 23) (F 24) (F 25) (F 26) (upd f_604 (Int32.toNatClampNeg x_603) (vp_nar .boolean 1)) (F 28) (F 29) (F 30) (F 31) (F 32) (F 33) (F 34) (F 35) (F 36) (F 37) (F 38) (F 39) (F 40) (F 41) (F 42) (F 43) (F 49) (F 50) (F 51) (F 52) (F 53) (F 54) (F 55) (F 56) (F 57) (F 58) (F 59) (n 9) (n 11) (n 12) (n 44) (n 45) (n 46) (n 47) (n 48)) := hD
                  obtain ⟨y_691, ey_691⟩ : ∃ q : Int32, q = x_603 + (1) := ⟨_, rfl⟩
                  refine lv_iinc (v := y_691) (lv' := [(6, .int y_691), (5, .int 1), (4, .int z_76), (3, .int z_75), (2, .int z_33), (0, .ref h0), (1, .int v1)]) hx hb dX10_does_288 hl (k := 0) rfl (by rw [ey_691]; rfl) (by decide) rfl (fun ls hl => ?_)
                  have ty_691 : y_691.toInt = x_603.toInt + (1) := ar_add rfl ti_1 ey_691 (by omega)
                  refine lv_goto (tgt := 250) hx hb dX10_does_291 (by decide) ?_
                  exact ih_605 y_691 (upd f_604 (Int32.toNatClampNeg x_603) (vp_nar .boolean 1))  H locs ls (by omega) (by omega) hP hD hS (lv_sub hl [0, 1, 2, 3, 4, 5, 6] rfl)
        exact L250 _ z_602 (F 27)  _ _ _ (Nat.lt_succ_self _) (by omega) hP hD hS (lv_sub hl [0, 1, 2, 3, 4, 5, 6] rfl)
      · refine lv_tableIn (tgt := 316) hx hb dX10_does_79 (by omega) (by omega) (by rw [sw_78]; rfl) (by decide) ?_
        refine lv_aload_n hx hb dX10_does_316 rfl (lv_at hl 4 rfl) ?_
        refine va_get (D := (dC, dI)) (ci := 10) (v := .int (n 46)) (C := RX10) (T := TX10) (N := 60) hx hb hg gb_10 hown hK hP 0 rfl rfl 46 (by decide) (hg _ gm_fieldLink_RX10_192_ErrandGuildModel_remarkMany_I_) (fun _ h9 => h9) rfl dX10_does_317 ?_
        refine lv_ldc (v := 310000) hx hb hown (hg _ gm_constant_RX10_150_310000_) dX10_does_320 ?_
        refine lv_icmp_ge (tgt := 484) hx hb dX10_does_322 (by decide) (fun c_692 => ?_) (fun c_692 => ?_)
        · simp only [i_lt, i_le, i_eq, ti_310000] at c_692
          refine lv_iload hx hb dX10_does_484 (lv_at hl 0 rfl) ?_
          refine lv_if_eq (tgt := 506) hx hb dX10_does_486 (by decide) (fun c_693 => absurd c_693 (by decide)) (fun _ => ?_)
          refine lv_aload_n hx hb dX10_does_489 rfl (lv_at hl 4 rfl) ?_
          refine va_get (D := (dC, dI)) (ci := 10) (v := .ref (X 20)) (C := RX10) (T := TX10) (N := 60) hx hb hg gb_10 hown hK hP 0 rfl rfl 20 (by decide) (hg _ gm_fieldLink_RX10_66_ErrandGuildModel_place_AI_) (fun _ h9 => h9) rfl dX10_does_490 ?_
          refine lv_iload_n hx hb dX10_does_493 rfl (lv_at hl 5 rfl) ?_
          refine lv_aload_n hx hb dX10_does_494 rfl (lv_at hl 4 rfl) ?_
          refine va_get (D := (dC, dI)) (ci := 10) (v := .ref (X 20)) (C := RX10) (T := TX10) (N := 60) hx hb hg gb_10 hown hK hP 0 rfl rfl 20 (by decide) (hg _ gm_fieldLink_RX10_66_ErrandGuildModel_place_AI_) (fun _ h9 => h9) rfl dX10_does_495 ?_
          refine lv_iload_n hx hb dX10_does_498 rfl (lv_at hl 5 rfl) ?_
          refine va_iald (f := F 20) hx hb hK hP 18 17 rfl rfl (vp_in_iff.mpr ⟨by omega, by omega⟩) dX10_does_499 ?_
          refine lv_topi (fun z_694 ez_694 => ?_)
          obtain rfl : z_32 = z_694 := ez_32.trans ez_694.symm
          refine lv_iconst (v := 1) hx hb dX10_does_500 (by decide) ?_
          refine lv_iadd hx hb dX10_does_501 ?_
          refine lv_topi (fun z_695 ez_695 => ?_)
          have tz_695 : z_695.toInt = z_32.toInt + 1 := ar_add rfl ti_1 ez_695 (by omega)
          refine va_iast (f := F 20) hx hb hK hP hD hS 18 17 rfl rfl (vp_in_iff.mpr ⟨by omega, by omega⟩) dX10_does_502 (fun H locs hP hD hS => ?_)
          have hP : va_P (dC, dI) vwCl (w10 h0 X C (F 0) (F 1) (F 2) (F 3) (F 4) (F 5) (F 6) (F 7) (F 8) (F 10) (F 13) (F 14) (F 15) (F 16) (F 17) (F 18) (F 19) (upd (F 20) (Int32.toNatClampNeg v1) z_695) (F 21) (F 22) (F 23) (F 24) (F 25) (F 26) (F 27) (F 28) (F 29) (F 30) (F 31) (F 32) (F 33) (F 34) (F 35) (F 36) (F 37) (F 38) (F 39) (F 40) (F 41) (F 42) (F 43) (F 49) (F 50) (F 51) (F 52) (F 53) (F 54) (F 55) (F 56) (F 57) (F 58) (F 59) (n 9) (n 11) (n 12) (n 44) (n 45) (n 46) (n 47) (n 48)) H := hP
          have hD : va_D A (w10 h0 X C (F 0) (F 1) (F 2) (F 3) (F 4) (F 5) (F 6) (F 7) (F 8) (F 10) (F 13) (F 14) (F 15) (F 16) (F 17) (F 18) (F 19) (upd (F 20) (Int32.toNatClampNeg v1) z_695) (F 21) (F 22) (F 23) (F 24) (F 25) (F 26) (F 27) (F 28) (F 29) (F 30) (F 31) (F 32) (F 33) (F 34) (F 35) (F 36) (F 37) (F 38) (F 39) (F 40) (F 41) (F 42) (F 43) (F 49) (F 50) (F 51) (F 52) (F 53) (F 54) (F 55) (F 56) (F 57) (F 58) (F 59) (n 9) (n 11) (n 12) (n 44) (n 45) (n 46) (n 47) (n 48)) := hD
          have b_696 := bd_upd b_8 (Int32.toNatClampNeg v1) (x := z_695) (by omega) (by omega)
          have j_697 : J2 (F 39) (upd (F 20) (Int32.toNatClampNeg v1) z_695) := J2_pl j_22 (Int32.toNatClampNeg v1) (by have h_ := j_22 (Int32.toNatClampNeg v1); omega)
          have j_698 : J2 (F 36) (upd (F 20) (Int32.toNatClampNeg v1) z_695) := J2_pl j_23 (Int32.toNatClampNeg v1) (by have h_ := j_23 (Int32.toNatClampNeg v1); omega)
          have j_699 : J7 (F 24) (upd (F 20) (Int32.toNatClampNeg v1) z_695) := J7_pl j_27 (Int32.toNatClampNeg v1) (Or.inl (by omega))
          refine lv_goto (tgt := 514) hx hb dX10_does_503 (by decide) ?_
          exact W.vret hx hb hr (fun t ht hW => ⟨⟨((fun k => ([F 0, F 1, F 2, F 3, F 4, F 5, F 6, F 7, F 8, (fun _ => 0), F 10, (fun _ => 0), (fun _ => 0), F 13, F 14, F 15, F 16, F 17, F 18, F 19, upd (F 20) (Int32.toNatClampNeg v1) z_695, F 21, F 22, F 23, F 24, F 25, F 26, F 27, F 28, F 29, F 30, F 31, F 32, F 33, F 34, F 35, F 36, F 37, F 38, F 39, F 40, F 41, F 42, F 43, (fun _ => 0), (fun _ => 0), (fun _ => 0), (fun _ => 0), (fun _ => 0), F 49, F 50, F 51, F 52, F 53, F 54, F 55, F 56, F 57, F 58, F 59] : List (Nat → Int32)).getD k (fun _ => 0)), n), rfl, (Int.le_refl _), by rw [ht]; exact hP, hD, I10_mono (k := kp) ⟨b_1, b_2, b_3, b_4, b_5, b_6, b_7, b_696, b_9, b_10, b_11, b_12, i_13, i_14, i_15, i_16, i_17, i_18, i_19, j_20, j_21, j_697, j_698, j_24, j_25, j_26, j_699, j_28, j_29⟩ (by omega)⟩, hS.F ht⟩) hS.2.2 dX10_does_514
        · simp only [i_lt, i_le, i_eq, ti_310000] at c_692
          refine lv_aload_n hx hb dX10_does_325 rfl (lv_at hl 4 rfl) ?_
          refine va_get (D := (dC, dI)) (ci := 10) (v := .ref (X 53)) (C := RX10) (T := TX10) (N := 60) hx hb hg gb_10 hown hK hP 0 rfl rfl 53 (by decide) (hg _ gm_fieldLink_RX10_151_ErrandGuildModel_remarkRoot_AI_) (fun _ h9 => h9) rfl dX10_does_326 ?_
          refine lv_aload_n hx hb dX10_does_329 rfl (lv_at hl 4 rfl) ?_
          refine va_get (D := (dC, dI)) (ci := 10) (v := .int (n 46)) (C := RX10) (T := TX10) (N := 60) hx hb hg gb_10 hown hK hP 0 rfl rfl 46 (by decide) (hg _ gm_fieldLink_RX10_192_ErrandGuildModel_remarkMany_I_) (fun _ h9 => h9) rfl dX10_does_330 ?_
          refine lv_aload_n hx hb dX10_does_333 rfl (lv_at hl 4 rfl) ?_
          refine va_get (D := (dC, dI)) (ci := 10) (v := .ref (X 16)) (C := RX10) (T := TX10) (N := 60) hx hb hg gb_10 hown hK hP 0 rfl rfl 16 (by decide) (hg _ gm_fieldLink_RX10_54_ErrandGuildModel_root_AI_) (fun _ h9 => h9) rfl dX10_does_334 ?_
          refine lv_iload_n hx hb dX10_does_337 rfl (lv_at hl 5 rfl) ?_
          refine va_iald (f := F 16) hx hb hK hP 14 13 rfl rfl (vp_in_iff.mpr ⟨by omega, by omega⟩) dX10_does_338 ?_
          refine lv_topi (fun z_700 ez_700 => ?_)
          have qz_700 := congrArg Int32.toInt ez_700
          have bz_700 := bd_at b_6 ez_700
          refine va_iast (f := F 53) hx hb hK hP hD hS 46 45 rfl rfl (vp_in_iff.mpr ⟨by omega, by omega⟩) dX10_does_339 (fun H locs hP hD hS => ?_)
          have hP : va_P (dC, dI) vwCl (w10 h0 X C (F 0) (F 1) (F 2) (F 3) (F 4) (F 5) (F 6) (F 7) (F 8) (F 10) (F 13) (F 14) (F 15) (F 16) (F 17) (F 18) (F 19) (F 20) (F 21) (F 22) (F 23) (F 24) (F 25) (F 26) (F 27) (F 28) (F 29) (F 30) (F 31) (F 32) (F 33) (F 34) (F 35) (F 36) (F 37) (F 38) (F 39) (F 40) (F 41) (F 42) (F 43) (F 49) (F 50) (F 51) (F 52) (upd (F 53) (Int32.toNatClampNeg (n 46)) z_700) (F 54) (F 55) (F 56) (F 57) (F 58) (F 59) (n 9) (n 11) (n 12) (n 44) (n 45) (n 46) (n 47) (n 48)) H := hP
          have hD : va_D A (w10 h0 X C (F 0) (F 1) (F 2) (F 3) (F 4) (F 5) (F 6) (F 7) (F 8) (F 10) (F 13) (F 14) (F 15) (F 16) (F 17) (F 18) (F 19) (F 20) (F 21) (F 22) (F 23) (F 24) (F 25) (F 26) (F 27) (F 28) (F 29) (F 30) (F 31) (F 32) (F 33) (F 34) (F 35) (F 36) (F 37) (F 38) (F 39) (F 40) (F 41) (F 42) (F 43) (F 49) (F 50) (F 51) (F 52) (upd (F 53) (Int32.toNatClampNeg (n 46)) z_700) (F 54) (F 55) (F 56) (F 57) (F 58) (F 59) (n 9) (n 11) (n 12) (n 44) (n 45) (n 46) (n 47) (n 48)) := hD
          refine lv_aload_n hx hb dX10_does_340 rfl (lv_at hl 4 rfl) ?_
          refine va_get (D := (dC, dI)) (ci := 10) (v := .ref (X 54)) (C := RX10) (T := TX10) (N := 60) hx hb hg gb_10 hown hK hP 0 rfl rfl 54 (by decide) (hg _ gm_fieldLink_RX10_154_ErrandGuildModel_remarkValue_AI_) (fun _ h9 => h9) rfl dX10_does_341 ?_
          refine lv_aload_n hx hb dX10_does_344 rfl (lv_at hl 4 rfl) ?_
          refine va_get (D := (dC, dI)) (ci := 10) (v := .int (n 46)) (C := RX10) (T := TX10) (N := 60) hx hb hg gb_10 hown hK hP 0 rfl rfl 46 (by decide) (hg _ gm_fieldLink_RX10_192_ErrandGuildModel_remarkMany_I_) (fun _ h9 => h9) rfl dX10_does_345 ?_
          refine lv_iload hx hb dX10_does_348 (lv_at hl 1 rfl) ?_
          refine va_iast (f := F 54) hx hb hK hP hD hS 47 46 rfl rfl (vp_in_iff.mpr ⟨by omega, by omega⟩) dX10_does_350 (fun H locs hP hD hS => ?_)
          have hP : va_P (dC, dI) vwCl (w10 h0 X C (F 0) (F 1) (F 2) (F 3) (F 4) (F 5) (F 6) (F 7) (F 8) (F 10) (F 13) (F 14) (F 15) (F 16) (F 17) (F 18) (F 19) (F 20) (F 21) (F 22) (F 23) (F 24) (F 25) (F 26) (F 27) (F 28) (F 29) (F 30) (F 31) (F 32) (F 33) (F 34) (F 35) (F 36) (F 37) (F 38) (F 39) (F 40) (F 41) (F 42) (F 43) (F 49) (F 50) (F 51) (F 52) (upd (F 53) (Int32.toNatClampNeg (n 46)) z_700) (upd (F 54) (Int32.toNatClampNeg (n 46)) z_76) (F 55) (F 56) (F 57) (F 58) (F 59) (n 9) (n 11) (n 12) (n 44) (n 45) (n 46) (n 47) (n 48)) H := hP
          have hD : va_D A (w10 h0 X C (F 0) (F 1) (F 2) (F 3) (F 4) (F 5) (F 6) (F 7) (F 8) (F 10) (F 13) (F 14) (F 15) (F 16) (F 17) (F 18) (F 19) (F 20) (F 21) (F 22) (F 23) (F 24) (F 25) (F 26) (F 27) (F 28) (F 29) (F 30) (F 31) (F 32) (F 33) (F 34) (F 35) (F 36) (F 37) (F 38) (F 39) (F 40) (F 41) (F 42) (F 43) (F 49) (F 50) (F 51) (F 52) (upd (F 53) (Int32.toNatClampNeg (n 46)) z_700) (upd (F 54) (Int32.toNatClampNeg (n 46)) z_76) (F 55) (F 56) (F 57) (F 58) (F 59) (n 9) (n 11) (n 12) (n 44) (n 45) (n 46) (n 47) (n 48)) := hD
          refine lv_aload_n hx hb dX10_does_351 rfl (lv_at hl 4 rfl) ?_
          refine lv_aload_n hx hb dX10_does_352 rfl (lv_at hl 4 rfl) ?_
          refine va_get (D := (dC, dI)) (ci := 10) (v := .int (n 46)) (C := RX10) (T := TX10) (N := 60) hx hb hg gb_10 hown hK hP 0 rfl rfl 46 (by decide) (hg _ gm_fieldLink_RX10_192_ErrandGuildModel_remarkMany_I_) (fun _ h9 => h9) rfl dX10_does_353 ?_
          refine lv_iconst (v := 1) hx hb dX10_does_356 (by decide) ?_
          refine lv_iadd hx hb dX10_does_357 ?_
          refine lv_topi (fun z_701 ez_701 => ?_)
          have tz_701 : z_701.toInt = (n 46).toInt + 1 := ar_add rfl ti_1 ez_701 (by omega)
          refine va_put (D := (dC, dI)) (ci := 10) (v := .int z_701) (ty := .int) (C := RX10) (T := TX10) (N := 60) hx hb hg gb_10 tyX10 tyX10_ok nmX10 hown hK hP hD hS 0 rfl rfl 46 (by decide) (hg _ gm_fieldLink_RX10_192_ErrandGuildModel_remarkMany_I_) (fun _ h9 => h9) rfl (by decide +kernel) rfl rfl (Nat.le_of_ble_eq_true rfl) dX10_does_358 (fun H locs hP hD hS => ?_)
          have hP : va_P (dC, dI) vwCl (w10 h0 X C (F 0) (F 1) (F 2) (F 3) (F 4) (F 5) (F 6) (F 7) (F 8) (F 10) (F 13) (F 14) (F 15) (F 16) (F 17) (F 18) (F 19) (F 20) (F 21) (F 22) (F 23) (F 24) (F 25) (F 26) (F 27) (F 28) (F 29) (F 30) (F 31) (F 32) (F 33) (F 34) (F 35) (F 36) (F 37) (F 38) (F 39) (F 40) (F 41) (F 42) (F 43) (F 49) (F 50) (F 51) (F 52) (upd (F 53) (Int32.toNatClampNeg (n 46)) z_700) (upd (F 54) (Int32.toNatClampNeg (n 46)) z_76) (F 55) (F 56) (F 57) (F 58) (F 59) (n 9) (n 11) (n 12) (n 44) (n 45) z_701 (n 47) (n 48)) H := hP
          have hD : va_D A (w10 h0 X C (F 0) (F 1) (F 2) (F 3) (F 4) (F 5) (F 6) (F 7) (F 8) (F 10) (F 13) (F 14) (F 15) (F 16) (F 17) (F 18) (F 19) (F 20) (F 21) (F 22) (F 23) (F 24) (F 25) (F 26) (F 27) (F 28) (F 29) (F 30) (F 31) (F 32) (F 33) (F 34) (F 35) (F 36) (F 37) (F 38) (F 39) (F 40) (F 41) (F 42) (F 43) (F 49) (F 50) (F 51) (F 52) (upd (F 53) (Int32.toNatClampNeg (n 46)) z_700) (upd (F 54) (Int32.toNatClampNeg (n 46)) z_76) (F 55) (F 56) (F 57) (F 58) (F 59) (n 9) (n 11) (n 12) (n 44) (n 45) z_701 (n 47) (n 48)) := hD
          have i_702 : 0 ≤ z_701.toInt ∧ z_701.toInt ≤ 310000 := by omega
          refine lv_goto (tgt := 484) hx hb dX10_does_361 (by decide) ?_
          refine lv_iload hx hb dX10_does_484 (lv_at hl 0 rfl) ?_
          refine lv_if_eq (tgt := 506) hx hb dX10_does_486 (by decide) (fun c_703 => absurd c_703 (by decide)) (fun _ => ?_)
          refine lv_aload_n hx hb dX10_does_489 rfl (lv_at hl 4 rfl) ?_
          refine va_get (D := (dC, dI)) (ci := 10) (v := .ref (X 20)) (C := RX10) (T := TX10) (N := 60) hx hb hg gb_10 hown hK hP 0 rfl rfl 20 (by decide) (hg _ gm_fieldLink_RX10_66_ErrandGuildModel_place_AI_) (fun _ h9 => h9) rfl dX10_does_490 ?_
          refine lv_iload_n hx hb dX10_does_493 rfl (lv_at hl 5 rfl) ?_
          refine lv_aload_n hx hb dX10_does_494 rfl (lv_at hl 4 rfl) ?_
          refine va_get (D := (dC, dI)) (ci := 10) (v := .ref (X 20)) (C := RX10) (T := TX10) (N := 60) hx hb hg gb_10 hown hK hP 0 rfl rfl 20 (by decide) (hg _ gm_fieldLink_RX10_66_ErrandGuildModel_place_AI_) (fun _ h9 => h9) rfl dX10_does_495 ?_
          refine lv_iload_n hx hb dX10_does_498 rfl (lv_at hl 5 rfl) ?_
          refine va_iald (f := F 20) hx hb hK hP 18 17 rfl rfl (vp_in_iff.mpr ⟨by omega, by omega⟩) dX10_does_499 ?_
          refine lv_topi (fun z_704 ez_704 => ?_)
          obtain rfl : z_32 = z_704 := ez_32.trans ez_704.symm
          refine lv_iconst (v := 1) hx hb dX10_does_500 (by decide) ?_
          refine lv_iadd hx hb dX10_does_501 ?_
          refine lv_topi (fun z_705 ez_705 => ?_)
          have tz_705 : z_705.toInt = z_32.toInt + 1 := ar_add rfl ti_1 ez_705 (by omega)
          refine va_iast (f := F 20) hx hb hK hP hD hS 18 17 rfl rfl (vp_in_iff.mpr ⟨by omega, by omega⟩) dX10_does_502 (fun H locs hP hD hS => ?_)
          have hP : va_P (dC, dI) vwCl (w10 h0 X C (F 0) (F 1) (F 2) (F 3) (F 4) (F 5) (F 6) (F 7) (F 8) (F 10) (F 13) (F 14) (F 15) (F 16) (F 17) (F 18) (F 19) (upd (F 20) (Int32.toNatClampNeg v1) z_705) (F 21) (F 22) (F 23) (F 24) (F 25) (F 26) (F 27) (F 28) (F 29) (F 30) (F 31) (F 32) (F 33) (F 34) (F 35) (F 36) (F 37) (F 38) (F 39) (F 40) (F 41) (F 42) (F 43) (F 49) (F 50) (F 51) (F 52) (upd (F 53) (Int32.toNatClampNeg (n 46)) z_700) (upd (F 54) (Int32.toNatClampNeg (n 46)) z_76) (F 55) (F 56) (F 57) (F 58) (F 59) (n 9) (n 11) (n 12) (n 44) (n 45) z_701 (n 47) (n 48)) H := hP
          have hD : va_D A (w10 h0 X C (F 0) (F 1) (F 2) (F 3) (F 4) (F 5) (F 6) (F 7) (F 8) (F 10) (F 13) (F 14) (F 15) (F 16) (F 17) (F 18) (F 19) (upd (F 20) (Int32.toNatClampNeg v1) z_705) (F 21) (F 22) (F 23) (F 24) (F 25) (F 26) (F 27) (F 28) (F 29) (F 30) (F 31) (F 32) (F 33) (F 34) (F 35) (F 36) (F 37) (F 38) (F 39) (F 40) (F 41) (F 42) (F 43) (F 49) (F 50) (F 51) (F 52) (upd (F 53) (Int32.toNatClampNeg (n 46)) z_700) (upd (F 54) (Int32.toNatClampNeg (n 46)) z_76) (F 55) (F 56) (F 57) (F 58) (F 59) (n 9) (n 11) (n 12) (n 44) (n 45) z_701 (n 47) (n 48)) := hD
          have b_706 := bd_upd b_8 (Int32.toNatClampNeg v1) (x := z_705) (by omega) (by omega)
          have j_707 : J2 (F 39) (upd (F 20) (Int32.toNatClampNeg v1) z_705) := J2_pl j_22 (Int32.toNatClampNeg v1) (by have h_ := j_22 (Int32.toNatClampNeg v1); omega)
          have j_708 : J2 (F 36) (upd (F 20) (Int32.toNatClampNeg v1) z_705) := J2_pl j_23 (Int32.toNatClampNeg v1) (by have h_ := j_23 (Int32.toNatClampNeg v1); omega)
          have j_709 : J7 (F 24) (upd (F 20) (Int32.toNatClampNeg v1) z_705) := J7_pl j_27 (Int32.toNatClampNeg v1) (Or.inl (by omega))
          refine lv_goto (tgt := 514) hx hb dX10_does_503 (by decide) ?_
          exact W.vret hx hb hr (fun t ht hW => ⟨⟨((fun k => ([F 0, F 1, F 2, F 3, F 4, F 5, F 6, F 7, F 8, (fun _ => 0), F 10, (fun _ => 0), (fun _ => 0), F 13, F 14, F 15, F 16, F 17, F 18, F 19, upd (F 20) (Int32.toNatClampNeg v1) z_705, F 21, F 22, F 23, F 24, F 25, F 26, F 27, F 28, F 29, F 30, F 31, F 32, F 33, F 34, F 35, F 36, F 37, F 38, F 39, F 40, F 41, F 42, F 43, (fun _ => 0), (fun _ => 0), (fun _ => 0), (fun _ => 0), (fun _ => 0), F 49, F 50, F 51, F 52, upd (F 53) (Int32.toNatClampNeg (n 46)) z_700, upd (F 54) (Int32.toNatClampNeg (n 46)) z_76, F 55, F 56, F 57, F 58, F 59] : List (Nat → Int32)).getD k (fun _ => 0)), (fun k => ([0, 0, 0, 0, 0, 0, 0, 0, 0, n 9, 0, n 11, n 12, 0, 0, 0, 0, 0, 0, 0, 0, 0, 0, 0, 0, 0, 0, 0, 0, 0, 0, 0, 0, 0, 0, 0, 0, 0, 0, 0, 0, 0, 0, 0, n 44, n 45, z_701, n 47, n 48, 0, 0, 0, 0, 0, 0, 0, 0, 0, 0, 0] : List Int32).getD k 0)), rfl, (Int.le_refl _), by rw [ht]; exact hP, hD, I10_mono (k := kp) ⟨b_1, b_2, b_3, b_4, b_5, b_6, b_7, b_706, b_9, b_10, b_11, b_12, i_13, i_14, i_15, i_16, i_702, i_18, i_19, j_20, j_21, j_707, j_708, j_24, j_25, j_26, j_709, j_28, j_29⟩ (by omega)⟩, hS.F ht⟩) hS.2.2 dX10_does_514
      · refine lv_tableIn (tgt := 364) hx hb dX10_does_79 (by omega) (by omega) (by rw [sw_78]; rfl) (by decide) ?_
        refine lv_aload_n hx hb dX10_does_364 rfl (lv_at hl 4 rfl) ?_
        refine lv_iload_n hx hb dX10_does_365 rfl (lv_at hl 5 rfl) ?_
        refine lv_iload_n hx hb dX10_does_366 rfl (lv_at hl 2 rfl) ?_
        refine lv_iconst (v := -1) hx hb dX10_does_367 (by decide) ?_
        refine lv_iconst (v := 0) hx hb dX10_does_368 (by decide) ?_
        have hFc := free_all hD hS hA
        refine va_callv (va_runV (As := [.int v1, .int z_75, .int (-1), .int 0]) (rest := []) ⟨hx, hb, hml, hown, hg⟩ (c_X10_fails l dC dI kp h0 X C F n v1 z_75 (-1) 0 s.heap.size ⟨b_1, b_2, b_3, b_4, b_5, b_6, b_7, b_8, b_9, b_10, b_11, b_12, i_13, i_14, i_15, i_16, i_17, i_18, i_19, j_20, j_21, j_22, j_23, j_24, j_25, j_26, j_27, j_28, j_29⟩ (by have t_0 := ti_m1; have t_1 := ti_0; omega) (by have t_0 := ti_m1; have t_1 := ti_0; show v1.toInt < ((n 11)).toInt; omega) (by have t_0 := ti_m1; have t_1 := ti_0; show ((F 13) (Int32.toNatClampNeg v1)).toInt = 1; omega) (by have t_0 := ti_m1; have t_1 := ti_0; show ((F 24) (Int32.toNatClampNeg v1)).toInt = 0; omega) (by have t_0 := ti_m1; have t_1 := ti_0; omega)) (cwV 4 hg (gw_V gm_methodLink_RX10_225_yX10_fails gm_instanceMethod_yX10_fails gm_selects_RX10_yX10_fails_yX10_fails gm_initialized_RX10 gm_code_yX10_fails_cX10_fails_6_none) rfl rfl rfl (by decide +kernel) ⟨Nat.le_of_ble_eq_true rfl, Nat.le_of_ble_eq_true rfl⟩) ⟨fun a U g mk q => by obtain ⟨q0, q1, qP, qK, qD, qN⟩ := q; exact ⟨q0, q1, qP, va_K.moved (u := U) (U := U.calling g mk a) (Vm.Alike.refl U.vm) qK, qD, nx_same (u := U) (U := U.calling g mk a) rfl qN⟩, va_recv hK hP (ci := 10) (q0 := 0) rfl rfl, fun U hU hW => ⟨rfl, by rw [hU], by rw [hU]; exact hP, va_K.moved hW.alike hK, hD.weaken (fun _ _ _ _ => trivial), nx_warm hW hN⟩⟩ rfl rfl hl.1 rfl (lv_room (Nat.le_of_ble_eq_true rfl)) dX10_does_369 ⟨Nat.le_of_ble_eq_true rfl, Nat.le_of_ble_eq_true rfl⟩) hS (fun q _ h => hFc q h) hFc (fun u_711 t H1 locs ht hvm hw hB hz1 hk1 hS => ?_)
        obtain ⟨F_712, n_713⟩ := u_711
        obtain ⟨hP, hD, hI_714⟩ := hB
        have hI_714 : I10 kp F_712 n_713 := hI_714
        obtain ⟨b_715, b_716, b_717, b_718, b_719, b_720, b_721, b_722, b_723, b_724, b_725, b_726, i_727, i_728, i_729, i_730, i_731, i_732, i_733, j_734, j_735, j_736, j_737, j_738, j_739, j_740, j_741, j_742, j_743⟩ := id hI_714
        rw [ht] at hP
        have hD := hD.weaken (fun k q _ h => hFc _ h)
        generalize H1 = H at hP hS ⊢
        have hP : va_P (dC, dI) vwCl (w10 h0 X C (F_712 0) (F_712 1) (F_712 2) (F_712 3) (F_712 4) (F_712 5) (F_712 6) (F_712 7) (F_712 8) (F_712 10) (F_712 13) (F_712 14) (F_712 15) (F_712 16) (F_712 17) (F_712 18) (F_712 19) (F_712 20) (F_712 21) (F_712 22) (F_712 23) (F_712 24) (F_712 25) (F_712 26) (F_712 27) (F_712 28) (F_712 29) (F_712 30) (F_712 31) (F_712 32) (F_712 33) (F_712 34) (F_712 35) (F_712 36) (F_712 37) (F_712 38) (F_712 39) (F_712 40) (F_712 41) (F_712 42) (F_712 43) (F_712 49) (F_712 50) (F_712 51) (F_712 52) (F_712 53) (F_712 54) (F_712 55) (F_712 56) (F_712 57) (F_712 58) (F_712 59) (n_713 9) (n_713 11) (n_713 12) (n_713 44) (n_713 45) (n_713 46) (n_713 47) (n_713 48)) H := hP
        have hD : va_D A (w10 h0 X C (F_712 0) (F_712 1) (F_712 2) (F_712 3) (F_712 4) (F_712 5) (F_712 6) (F_712 7) (F_712 8) (F_712 10) (F_712 13) (F_712 14) (F_712 15) (F_712 16) (F_712 17) (F_712 18) (F_712 19) (F_712 20) (F_712 21) (F_712 22) (F_712 23) (F_712 24) (F_712 25) (F_712 26) (F_712 27) (F_712 28) (F_712 29) (F_712 30) (F_712 31) (F_712 32) (F_712 33) (F_712 34) (F_712 35) (F_712 36) (F_712 37) (F_712 38) (F_712 39) (F_712 40) (F_712 41) (F_712 42) (F_712 43) (F_712 49) (F_712 50) (F_712 51) (F_712 52) (F_712 53) (F_712 54) (F_712 55) (F_712 56) (F_712 57) (F_712 58) (F_712 59) (n_713 9) (n_713 11) (n_713 12) (n_713 44) (n_713 45) (n_713 46) (n_713 47) (n_713 48)) := hD
        have w_744 : ((n 11)).toInt ≤ (n_713 11).toInt := hw
        try simp only [upd_eq] at w_744
        exact W.vret hx hb hr (fun t ht hW => ⟨⟨(F_712, n_713), rfl, (by show (n 11).toInt ≤ ((n_713 11)).toInt; omega), by rw [ht]; exact hP, hD, I10_mono (k := kp) ⟨b_715, b_716, b_717, b_718, b_719, b_720, b_721, b_722, b_723, b_724, b_725, b_726, i_727, i_728, i_729, i_730, i_731, i_732, i_733, j_734, j_735, j_736, j_737, j_738, j_739, j_740, j_741, j_742, j_743⟩ (by omega)⟩, hS.F ht⟩) hS.2.2 dX10_does_372
      · refine lv_tableIn (tgt := 373) hx hb dX10_does_79 (by omega) (by omega) (by rw [sw_78]; rfl) (by decide) ?_
        refine lv_bipush (v := 24) hx hb dX10_does_373 (by decide) ?_
        refine lv_iload_n hx hb dX10_does_375 rfl (lv_at hl 5 rfl) ?_
        refine lv_imul hx hb dX10_does_376 ?_
        refine lv_topi (fun z_745 ez_745 => ?_)
        have tz_745 : z_745.toInt = 24 * v1.toInt := ar_mul ti_24 rfl ez_745 (by omega)
        refine lv_aload_n hx hb dX10_does_377 rfl (lv_at hl 4 rfl) ?_
        refine va_get (D := (dC, dI)) (ci := 10) (v := .ref (X 39)) (C := RX10) (T := TX10) (N := 60) hx hb hg gb_10 hown hK hP 0 rfl rfl 39 (by decide) (hg _ gm_fieldLink_RX10_123_ErrandGuildModel_tryMany_AI_) (fun _ h9 => h9) rfl dX10_does_378 ?_
        refine lv_iload_n hx hb dX10_does_381 rfl (lv_at hl 5 rfl) ?_
        refine va_iald (f := F 39) hx hb hK hP 37 36 rfl rfl (vp_in_iff.mpr ⟨by omega, by omega⟩) dX10_does_382 ?_
        refine lv_topi (fun z_746 ez_746 => ?_)
        have qz_746 := congrArg Int32.toInt ez_746
        have bz_746 := bd_at b_11 ez_746
        refine lv_iadd hx hb dX10_does_383 ?_
        refine lv_topi (fun z_747 ez_747 => ?_)
        have tz_747 : z_747.toInt = z_745.toInt + z_746.toInt := ar_add rfl rfl ez_747 (by omega)
        refine lv_istore (lv' := [(6, .int z_747), (5, .int 1), (4, .int z_76), (3, .int z_75), (2, .int z_33), (0, .ref h0), (1, .int v1)]) hx hb dX10_does_384 hl (by decide) rfl (fun ls hl => ?_)
        refine lv_aload_n hx hb dX10_does_386 rfl (lv_at hl 5 rfl) ?_
        refine va_get (D := (dC, dI)) (ci := 10) (v := .ref (X 40)) (C := RX10) (T := TX10) (N := 60) hx hb hg gb_10 hown hK hP 0 rfl rfl 40 (by decide) (hg _ gm_fieldLink_RX10_126_ErrandGuildModel_tryKind_AI_) (fun _ h9 => h9) rfl dX10_does_387 ?_
        refine lv_iload hx hb dX10_does_390 (lv_at hl 0 rfl) ?_
        refine lv_iload_n hx hb dX10_does_392 rfl (lv_at hl 3 rfl) ?_
        refine va_iast (f := F 40) hx hb hK hP hD hS 38 37 rfl rfl (vp_in_iff.mpr ⟨by omega, by omega⟩) dX10_does_393 (fun H locs hP hD hS => ?_)
        have hP : va_P (dC, dI) vwCl (w10 h0 X C (F 0) (F 1) (F 2) (F 3) (F 4) (F 5) (F 6) (F 7) (F 8) (F 10) (F 13) (F 14) (F 15) (F 16) (F 17) (F 18) (F 19) (F 20) (F 21) (F 22) (F 23) (F 24) (F 25) (F 26) (F 27) (F 28) (F 29) (F 30) (F 31) (F 32) (F 33) (F 34) (F 35) (F 36) (F 37) (F 38) (F 39) (upd (F 40) (Int32.toNatClampNeg z_747) z_75) (F 41) (F 42) (F 43) (F 49) (F 50) (F 51) (F 52) (F 53) (F 54) (F 55) (F 56) (F 57) (F 58) (F 59) (n 9) (n 11) (n 12) (n 44) (n 45) (n 46) (n 47) (n 48)) H := hP
        have hD : va_D A (w10 h0 X C (F 0) (F 1) (F 2) (F 3) (F 4) (F 5) (F 6) (F 7) (F 8) (F 10) (F 13) (F 14) (F 15) (F 16) (F 17) (F 18) (F 19) (F 20) (F 21) (F 22) (F 23) (F 24) (F 25) (F 26) (F 27) (F 28) (F 29) (F 30) (F 31) (F 32) (F 33) (F 34) (F 35) (F 36) (F 37) (F 38) (F 39) (upd (F 40) (Int32.toNatClampNeg z_747) z_75) (F 41) (F 42) (F 43) (F 49) (F 50) (F 51) (F 52) (F 53) (F 54) (F 55) (F 56) (F 57) (F 58) (F 59) (n 9) (n 11) (n 12) (n 44) (n 45) (n 46) (n 47) (n 48)) := hD
        refine lv_aload_n hx hb dX10_does_394 rfl (lv_at hl 5 rfl) ?_
        refine va_get (D := (dC, dI)) (ci := 10) (v := .ref (X 41)) (C := RX10) (T := TX10) (N := 60) hx hb hg gb_10 hown hK hP 0 rfl rfl 41 (by decide) (hg _ gm_fieldLink_RX10_129_ErrandGuildModel_tryPlace_AI_) (fun _ h9 => h9) rfl dX10_does_395 ?_
        refine lv_iload hx hb dX10_does_398 (lv_at hl 0 rfl) ?_
        refine lv_iload hx hb dX10_does_400 (lv_at hl 2 rfl) ?_
        refine va_iast (f := F 41) hx hb hK hP hD hS 39 38 rfl rfl (vp_in_iff.mpr ⟨by omega, by omega⟩) dX10_does_402 (fun H locs hP hD hS => ?_)
        have hP : va_P (dC, dI) vwCl (w10 h0 X C (F 0) (F 1) (F 2) (F 3) (F 4) (F 5) (F 6) (F 7) (F 8) (F 10) (F 13) (F 14) (F 15) (F 16) (F 17) (F 18) (F 19) (F 20) (F 21) (F 22) (F 23) (F 24) (F 25) (F 26) (F 27) (F 28) (F 29) (F 30) (F 31) (F 32) (F 33) (F 34) (F 35) (F 36) (F 37) (F 38) (F 39) (upd (F 40) (Int32.toNatClampNeg z_747) z_75) (upd (F 41) (Int32.toNatClampNeg z_747) z_76) (F 42) (F 43) (F 49) (F 50) (F 51) (F 52) (F 53) (F 54) (F 55) (F 56) (F 57) (F 58) (F 59) (n 9) (n 11) (n 12) (n 44) (n 45) (n 46) (n 47) (n 48)) H := hP
        have hD : va_D A (w10 h0 X C (F 0) (F 1) (F 2) (F 3) (F 4) (F 5) (F 6) (F 7) (F 8) (F 10) (F 13) (F 14) (F 15) (F 16) (F 17) (F 18) (F 19) (F 20) (F 21) (F 22) (F 23) (F 24) (F 25) (F 26) (F 27) (F 28) (F 29) (F 30) (F 31) (F 32) (F 33) (F 34) (F 35) (F 36) (F 37) (F 38) (F 39) (upd (F 40) (Int32.toNatClampNeg z_747) z_75) (upd (F 41) (Int32.toNatClampNeg z_747) z_76) (F 42) (F 43) (F 49) (F 50) (F 51) (F 52) (F 53) (F 54) (F 55) (F 56) (F 57) (F 58) (F 59) (n 9) (n 11) (n 12) (n 44) (n 45) (n 46) (n 47) (n 48)) := hD
        have b_748 := bd_upd b_12 (Int32.toNatClampNeg z_747) (x := z_76) (by omega) (by omega)
        refine lv_aload_n hx hb dX10_does_403 rfl (lv_at hl 5 rfl) ?_
        refine va_get (D := (dC, dI)) (ci := 10) (v := .ref (X 43)) (C := RX10) (T := TX10) (N := 60) hx hb hg gb_10 hown hK hP 0 rfl rfl 43 (by decide) (hg _ gm_fieldLink_RX10_135_ErrandGuildModel_tryNumber_AI_) (fun _ h9 => h9) rfl dX10_does_404 ?_
        refine lv_iload hx hb dX10_does_407 (lv_at hl 0 rfl) ?_
        refine lv_aload_n hx hb dX10_does_409 rfl (lv_at hl 5 rfl) ?_
        refine va_get (D := (dC, dI)) (ci := 10) (v := .int (n 44)) (C := RX10) (T := TX10) (N := 60) hx hb hg gb_10 hown hK hP 0 rfl rfl 44 (by decide) (hg _ gm_fieldLink_RX10_256_ErrandGuildModel_opened_I_) (fun _ h9 => h9) rfl dX10_does_410 ?_
        refine va_iast (f := F 43) hx hb hK hP hD hS 41 40 rfl rfl (vp_in_iff.mpr ⟨by omega, by omega⟩) dX10_does_413 (fun H locs hP hD hS => ?_)
        have hP : va_P (dC, dI) vwCl (w10 h0 X C (F 0) (F 1) (F 2) (F 3) (F 4) (F 5) (F 6) (F 7) (F 8) (F 10) (F 13) (F 14) (F 15) (F 16) (F 17) (F 18) (F 19) (F 20) (F 21) (F 22) (F 23) (F 24) (F 25) (F 26) (F 27) (F 28) (F 29) (F 30) (F 31) (F 32) (F 33) (F 34) (F 35) (F 36) (F 37) (F 38) (F 39) (upd (F 40) (Int32.toNatClampNeg z_747) z_75) (upd (F 41) (Int32.toNatClampNeg z_747) z_76) (F 42) (upd (F 43) (Int32.toNatClampNeg z_747) (n 44)) (F 49) (F 50) (F 51) (F 52) (F 53) (F 54) (F 55) (F 56) (F 57) (F 58) (F 59) (n 9) (n 11) (n 12) (n 44) (n 45) (n 46) (n 47) (n 48)) H := hP
        have hD : va_D A (w10 h0 X C (F 0) (F 1) (F 2) (F 3) (F 4) (F 5) (F 6) (F 7) (F 8) (F 10) (F 13) (F 14) (F 15) (F 16) (F 17) (F 18) (F 19) (F 20) (F 21) (F 22) (F 23) (F 24) (F 25) (F 26) (F 27) (F 28) (F 29) (F 30) (F 31) (F 32) (F 33) (F 34) (F 35) (F 36) (F 37) (F 38) (F 39) (upd (F 40) (Int32.toNatClampNeg z_747) z_75) (upd (F 41) (Int32.toNatClampNeg z_747) z_76) (F 42) (upd (F 43) (Int32.toNatClampNeg z_747) (n 44)) (F 49) (F 50) (F 51) (F 52) (F 53) (F 54) (F 55) (F 56) (F 57) (F 58) (F 59) (n 9) (n 11) (n 12) (n 44) (n 45) (n 46) (n 47) (n 48)) := hD
        have j_749 : J9 (upd (F 43) (Int32.toNatClampNeg z_747) (n 44)) (n 44) := J9_tn j_29 (Int32.toNatClampNeg z_747)
        refine lv_aload_n hx hb dX10_does_414 rfl (lv_at hl 5 rfl) ?_
        refine va_get (D := (dC, dI)) (ci := 10) (v := .ref (X 39)) (C := RX10) (T := TX10) (N := 60) hx hb hg gb_10 hown hK hP 0 rfl rfl 39 (by decide) (hg _ gm_fieldLink_RX10_123_ErrandGuildModel_tryMany_AI_) (fun _ h9 => h9) rfl dX10_does_415 ?_
        refine lv_iload_n hx hb dX10_does_418 rfl (lv_at hl 6 rfl) ?_
        refine lv_aload_n hx hb dX10_does_419 rfl (lv_at hl 5 rfl) ?_
        refine va_get (D := (dC, dI)) (ci := 10) (v := .ref (X 39)) (C := RX10) (T := TX10) (N := 60) hx hb hg gb_10 hown hK hP 0 rfl rfl 39 (by decide) (hg _ gm_fieldLink_RX10_123_ErrandGuildModel_tryMany_AI_) (fun _ h9 => h9) rfl dX10_does_420 ?_
        refine lv_iload_n hx hb dX10_does_423 rfl (lv_at hl 6 rfl) ?_
        refine va_iald (f := F 39) hx hb hK hP 37 36 rfl rfl (vp_in_iff.mpr ⟨by omega, by omega⟩) dX10_does_424 ?_
        refine lv_topi (fun z_750 ez_750 => ?_)
        obtain rfl : z_746 = z_750 := ez_746.trans ez_750.symm
        refine lv_iconst (v := 1) hx hb dX10_does_425 (by decide) ?_
        refine lv_iadd hx hb dX10_does_426 ?_
        refine lv_topi (fun z_751 ez_751 => ?_)
        have tz_751 : z_751.toInt = z_746.toInt + 1 := ar_add rfl ti_1 ez_751 (by omega)
        refine va_iast (f := F 39) hx hb hK hP hD hS 37 36 rfl rfl (vp_in_iff.mpr ⟨by omega, by omega⟩) dX10_does_427 (fun H locs hP hD hS => ?_)
        have hP : va_P (dC, dI) vwCl (w10 h0 X C (F 0) (F 1) (F 2) (F 3) (F 4) (F 5) (F 6) (F 7) (F 8) (F 10) (F 13) (F 14) (F 15) (F 16) (F 17) (F 18) (F 19) (F 20) (F 21) (F 22) (F 23) (F 24) (F 25) (F 26) (F 27) (F 28) (F 29) (F 30) (F 31) (F 32) (F 33) (F 34) (F 35) (F 36) (F 37) (F 38) (upd (F 39) (Int32.toNatClampNeg v1) z_751) (upd (F 40) (Int32.toNatClampNeg z_747) z_75) (upd (F 41) (Int32.toNatClampNeg z_747) z_76) (F 42) (upd (F 43) (Int32.toNatClampNeg z_747) (n 44)) (F 49) (F 50) (F 51) (F 52) (F 53) (F 54) (F 55) (F 56) (F 57) (F 58) (F 59) (n 9) (n 11) (n 12) (n 44) (n 45) (n 46) (n 47) (n 48)) H := hP
        have hD : va_D A (w10 h0 X C (F 0) (F 1) (F 2) (F 3) (F 4) (F 5) (F 6) (F 7) (F 8) (F 10) (F 13) (F 14) (F 15) (F 16) (F 17) (F 18) (F 19) (F 20) (F 21) (F 22) (F 23) (F 24) (F 25) (F 26) (F 27) (F 28) (F 29) (F 30) (F 31) (F 32) (F 33) (F 34) (F 35) (F 36) (F 37) (F 38) (upd (F 39) (Int32.toNatClampNeg v1) z_751) (upd (F 40) (Int32.toNatClampNeg z_747) z_75) (upd (F 41) (Int32.toNatClampNeg z_747) z_76) (F 42) (upd (F 43) (Int32.toNatClampNeg z_747) (n 44)) (F 49) (F 50) (F 51) (F 52) (F 53) (F 54) (F 55) (F 56) (F 57) (F 58) (F 59) (n 9) (n 11) (n 12) (n 44) (n 45) (n 46) (n 47) (n 48)) := hD
        have b_752 := bd_upd b_11 (Int32.toNatClampNeg v1) (x := z_751) (by omega) (by omega)
        have cz := cl_eq z_747
        have p39 := b_11 (Int32.toNatClampNeg v1)
        have j_753 : J4 (upd (F 39) (Int32.toNatClampNeg v1) z_751) (upd (F 41) (Int32.toNatClampNeg z_747) z_76) := J4_try (b := (F 39 (Int32.toNatClampNeg v1)).toInt.toNat) j_24 (by omega) (by omega) (by omega) (by omega) (by omega)
        have j_754 : J5 (upd (F 39) (Int32.toNatClampNeg v1) z_751) (F 36) (upd (F 41) (Int32.toNatClampNeg z_747) z_76) (upd (F 43) (Int32.toNatClampNeg z_747) (n 44)) (F 42) := J5_try (b := (F 39 (Int32.toNatClampNeg v1)).toInt.toNat) j_25 (by omega) (by omega) (by omega) (by omega) (by have h_ := j_23 (Int32.toNatClampNeg v1); omega)
        refine lv_goto (tgt := 484) hx hb dX10_does_428 (by decide) ?_
        refine lv_iload hx hb dX10_does_484 (lv_at hl 1 rfl) ?_
        refine lv_if_eq (tgt := 506) hx hb dX10_does_486 (by decide) (fun c_755 => absurd c_755 (by decide)) (fun _ => ?_)
        refine lv_aload_n hx hb dX10_does_489 rfl (lv_at hl 5 rfl) ?_
        refine va_get (D := (dC, dI)) (ci := 10) (v := .ref (X 20)) (C := RX10) (T := TX10) (N := 60) hx hb hg gb_10 hown hK hP 0 rfl rfl 20 (by decide) (hg _ gm_fieldLink_RX10_66_ErrandGuildModel_place_AI_) (fun _ h9 => h9) rfl dX10_does_490 ?_
        refine lv_iload_n hx hb dX10_does_493 rfl (lv_at hl 6 rfl) ?_
        refine lv_aload_n hx hb dX10_does_494 rfl (lv_at hl 5 rfl) ?_
        refine va_get (D := (dC, dI)) (ci := 10) (v := .ref (X 20)) (C := RX10) (T := TX10) (N := 60) hx hb hg gb_10 hown hK hP 0 rfl rfl 20 (by decide) (hg _ gm_fieldLink_RX10_66_ErrandGuildModel_place_AI_) (fun _ h9 => h9) rfl dX10_does_495 ?_
        refine lv_iload_n hx hb dX10_does_498 rfl (lv_at hl 6 rfl) ?_
        refine va_iald (f := F 20) hx hb hK hP 18 17 rfl rfl (vp_in_iff.mpr ⟨by omega, by omega⟩) dX10_does_499 ?_
        refine lv_topi (fun z_756 ez_756 => ?_)
        obtain rfl : z_32 = z_756 := ez_32.trans ez_756.symm
        refine lv_iconst (v := 1) hx hb dX10_does_500 (by decide) ?_
        refine lv_iadd hx hb dX10_does_501 ?_
        refine lv_topi (fun z_757 ez_757 => ?_)
        have tz_757 : z_757.toInt = z_32.toInt + 1 := ar_add rfl ti_1 ez_757 (by omega)
        refine va_iast (f := F 20) hx hb hK hP hD hS 18 17 rfl rfl (vp_in_iff.mpr ⟨by omega, by omega⟩) dX10_does_502 (fun H locs hP hD hS => ?_)
        have hP : va_P (dC, dI) vwCl (w10 h0 X C (F 0) (F 1) (F 2) (F 3) (F 4) (F 5) (F 6) (F 7) (F 8) (F 10) (F 13) (F 14) (F 15) (F 16) (F 17) (F 18) (F 19) (upd (F 20) (Int32.toNatClampNeg v1) z_757) (F 21) (F 22) (F 23) (F 24) (F 25) (F 26) (F 27) (F 28) (F 29) (F 30) (F 31) (F 32) (F 33) (F 34) (F 35) (F 36) (F 37) (F 38) (upd (F 39) (Int32.toNatClampNeg v1) z_751) (upd (F 40) (Int32.toNatClampNeg z_747) z_75) (upd (F 41) (Int32.toNatClampNeg z_747) z_76) (F 42) (upd (F 43) (Int32.toNatClampNeg z_747) (n 44)) (F 49) (F 50) (F 51) (F 52) (F 53) (F 54) (F 55) (F 56) (F 57) (F 58) (F 59) (n 9) (n 11) (n 12) (n 44) (n 45) (n 46) (n 47) (n 48)) H := hP
        have hD : va_D A (w10 h0 X C (F 0) (F 1) (F 2) (F 3) (F 4) (F 5) (F 6) (F 7) (F 8) (F 10) (F 13) (F 14) (F 15) (F 16) (F 17) (F 18) (F 19) (upd (F 20) (Int32.toNatClampNeg v1) z_757) (F 21) (F 22) (F 23) (F 24) (F 25) (F 26) (F 27) (F 28) (F 29) (F 30) (F 31) (F 32) (F 33) (F 34) (F 35) (F 36) (F 37) (F 38) (upd (F 39) (Int32.toNatClampNeg v1) z_751) (upd (F 40) (Int32.toNatClampNeg z_747) z_75) (upd (F 41) (Int32.toNatClampNeg z_747) z_76) (F 42) (upd (F 43) (Int32.toNatClampNeg z_747) (n 44)) (F 49) (F 50) (F 51) (F 52) (F 53) (F 54) (F 55) (F 56) (F 57) (F 58) (F 59) (n 9) (n 11) (n 12) (n 44) (n 45) (n 46) (n 47) (n 48)) := hD
        have b_758 := bd_upd b_8 (Int32.toNatClampNeg v1) (x := z_757) (by omega) (by omega)
        have j_759 : J2 (upd (F 39) (Int32.toNatClampNeg v1) z_751) (upd (F 20) (Int32.toNatClampNeg v1) z_757) := J2_both j_22 (Int32.toNatClampNeg v1) (by have h_ := j_22 (Int32.toNatClampNeg v1); omega)
        have j_760 : J2 (F 36) (upd (F 20) (Int32.toNatClampNeg v1) z_757) := J2_pl j_23 (Int32.toNatClampNeg v1) (by have h_ := j_23 (Int32.toNatClampNeg v1); omega)
        have j_761 : J7 (F 24) (upd (F 20) (Int32.toNatClampNeg v1) z_757) := J7_pl j_27 (Int32.toNatClampNeg v1) (Or.inl (by omega))
        refine lv_goto (tgt := 514) hx hb dX10_does_503 (by decide) ?_
        exact W.vret hx hb hr (fun t ht hW => ⟨⟨((fun k => ([F 0, F 1, F 2, F 3, F 4, F 5, F 6, F 7, F 8, (fun _ => 0), F 10, (fun _ => 0), (fun _ => 0), F 13, F 14, F 15, F 16, F 17, F 18, F 19, upd (F 20) (Int32.toNatClampNeg v1) z_757, F 21, F 22, F 23, F 24, F 25, F 26, F 27, F 28, F 29, F 30, F 31, F 32, F 33, F 34, F 35, F 36, F 37, F 38, upd (F 39) (Int32.toNatClampNeg v1) z_751, upd (F 40) (Int32.toNatClampNeg z_747) z_75, upd (F 41) (Int32.toNatClampNeg z_747) z_76, F 42, upd (F 43) (Int32.toNatClampNeg z_747) (n 44), (fun _ => 0), (fun _ => 0), (fun _ => 0), (fun _ => 0), (fun _ => 0), F 49, F 50, F 51, F 52, F 53, F 54, F 55, F 56, F 57, F 58, F 59] : List (Nat → Int32)).getD k (fun _ => 0)), n), rfl, (Int.le_refl _), by rw [ht]; exact hP, hD, I10_mono (k := kp) ⟨b_1, b_2, b_3, b_4, b_5, b_6, b_7, b_758, b_9, b_10, b_752, b_748, i_13, i_14, i_15, i_16, i_17, i_18, i_19, j_20, j_21, j_759, j_760, j_753, j_754, j_26, j_761, j_28, j_749⟩ (by omega)⟩, hS.F ht⟩) hS.2.2 dX10_does_514
      · refine lv_tableIn (tgt := 431) hx hb dX10_does_79 (by omega) (by omega) (by rw [sw_78]; rfl) (by decide) ?_
        refine lv_aload_n hx hb dX10_does_431 rfl (lv_at hl 4 rfl) ?_
        refine va_get (D := (dC, dI)) (ci := 10) (v := .ref (X 39)) (C := RX10) (T := TX10) (N := 60) hx hb hg gb_10 hown hK hP 0 rfl rfl 39 (by decide) (hg _ gm_fieldLink_RX10_123_ErrandGuildModel_tryMany_AI_) (fun _ h9 => h9) rfl dX10_does_432 ?_
        refine lv_iload_n hx hb dX10_does_435 rfl (lv_at hl 5 rfl) ?_
        refine va_iald (f := F 39) hx hb hK hP 37 36 rfl rfl (vp_in_iff.mpr ⟨by omega, by omega⟩) dX10_does_436 ?_
        refine lv_topi (fun z_762 ez_762 => ?_)
        have qz_762 := congrArg Int32.toInt ez_762
        have bz_762 := bd_at b_11 ez_762
        refine lv_if_le (tgt := 444) hx hb dX10_does_437 (by decide) (fun c_763 => ?_) (fun c_763 => ?_)
        · simp only [i_lt, i_le, i_eq, ti_0] at c_763
          refine lv_iconst (v := 0) hx hb dX10_does_444 (by decide) ?_
          refine lv_istore (lv' := [(5, .int 0), (4, .int z_76), (3, .int z_75), (2, .int z_33), (0, .ref h0), (1, .int v1)]) hx hb dX10_does_445 hl (by decide) rfl (fun ls hl => ?_)
          refine lv_iload hx hb dX10_does_447 (lv_at hl 0 rfl) ?_
          refine lv_if_eq (tgt := 484) hx hb dX10_does_449 (by decide) (fun _ => ?_) (fun c_764 => absurd c_764 (by decide))
          refine lv_iload hx hb dX10_does_484 (lv_at hl 0 rfl) ?_
          refine lv_if_eq (tgt := 506) hx hb dX10_does_486 (by decide) (fun _ => ?_) (fun c_765 => absurd c_765 (by decide))
          refine lv_aload_n hx hb dX10_does_506 rfl (lv_at hl 4 rfl) ?_
          refine lv_iload_n hx hb dX10_does_507 rfl (lv_at hl 5 rfl) ?_
          refine lv_iconst (v := 5) hx hb dX10_does_508 (by decide) ?_
          refine lv_iconst (v := -1) hx hb dX10_does_509 (by decide) ?_
          refine lv_iconst (v := 0) hx hb dX10_does_510 (by decide) ?_
          have hFc := free_all hD hS hA
          refine va_callv (va_runV (As := [.int v1, .int 5, .int (-1), .int 0]) (rest := []) ⟨hx, hb, hml, hown, hg⟩ (c_X10_fails l dC dI kp h0 X C F n v1 5 (-1) 0 s.heap.size ⟨b_1, b_2, b_3, b_4, b_5, b_6, b_7, b_8, b_9, b_10, b_11, b_12, i_13, i_14, i_15, i_16, i_17, i_18, i_19, j_20, j_21, j_22, j_23, j_24, j_25, j_26, j_27, j_28, j_29⟩ (by have t_0 := ti_5; have t_1 := ti_m1; have t_2 := ti_0; omega) (by have t_0 := ti_5; have t_1 := ti_m1; have t_2 := ti_0; show v1.toInt < ((n 11)).toInt; omega) (by have t_0 := ti_5; have t_1 := ti_m1; have t_2 := ti_0; show ((F 13) (Int32.toNatClampNeg v1)).toInt = 1; omega) (by have t_0 := ti_5; have t_1 := ti_m1; have t_2 := ti_0; show ((F 24) (Int32.toNatClampNeg v1)).toInt = 0; omega) (by have t_0 := ti_5; have t_1 := ti_m1; have t_2 := ti_0; omega)) (cwV 4 hg (gw_V gm_methodLink_RX10_225_yX10_fails gm_instanceMethod_yX10_fails gm_selects_RX10_yX10_fails_yX10_fails gm_initialized_RX10 gm_code_yX10_fails_cX10_fails_6_none) rfl rfl rfl (by decide +kernel) ⟨Nat.le_of_ble_eq_true rfl, Nat.le_of_ble_eq_true rfl⟩) ⟨fun a U g mk q => by obtain ⟨q0, q1, qP, qK, qD, qN⟩ := q; exact ⟨q0, q1, qP, va_K.moved (u := U) (U := U.calling g mk a) (Vm.Alike.refl U.vm) qK, qD, nx_same (u := U) (U := U.calling g mk a) rfl qN⟩, va_recv hK hP (ci := 10) (q0 := 0) rfl rfl, fun U hU hW => ⟨rfl, by rw [hU], by rw [hU]; exact hP, va_K.moved hW.alike hK, hD.weaken (fun _ _ _ _ => trivial), nx_warm hW hN⟩⟩ rfl rfl hl.1 rfl (lv_room (Nat.le_of_ble_eq_true rfl)) dX10_does_511 ⟨Nat.le_of_ble_eq_true rfl, Nat.le_of_ble_eq_true rfl⟩) hS (fun q _ h => hFc q h) hFc (fun u_767 t H1 locs ht hvm hw hB hz1 hk1 hS => ?_)
          obtain ⟨F_768, n_769⟩ := u_767
          obtain ⟨hP, hD, hI_770⟩ := hB
          have hI_770 : I10 kp F_768 n_769 := hI_770
          obtain ⟨b_771, b_772, b_773, b_774, b_775, b_776, b_777, b_778, b_779, b_780, b_781, b_782, i_783, i_784, i_785, i_786, i_787, i_788, i_789, j_790, j_791, j_792, j_793, j_794, j_795, j_796, j_797, j_798, j_799⟩ := id hI_770
          rw [ht] at hP
          have hD := hD.weaken (fun k q _ h => hFc _ h)
          generalize H1 = H at hP hS ⊢
          have hP : va_P (dC, dI) vwCl (w10 h0 X C (F_768 0) (F_768 1) (F_768 2) (F_768 3) (F_768 4) (F_768 5) (F_768 6) (F_768 7) (F_768 8) (F_768 10) (F_768 13) (F_768 14) (F_768 15) (F_768 16) (F_768 17) (F_768 18) (F_768 19) (F_768 20) (F_768 21) (F_768 22) (F_768 23) (F_768 24) (F_768 25) (F_768 26) (F_768 27) (F_768 28) (F_768 29) (F_768 30) (F_768 31) (F_768 32) (F_768 33) (F_768 34) (F_768 35) (F_768 36) (F_768 37) (F_768 38) (F_768 39) (F_768 40) (F_768 41) (F_768 42) (F_768 43) (F_768 49) (F_768 50) (F_768 51) (F_768 52) (F_768 53) (F_768 54) (F_768 55) (F_768 56) (F_768 57) (F_768 58) (F_768 59) (n_769 9) (n_769 11) (n_769 12) (n_769 44) (n_769 45) (n_769 46) (n_769 47) (n_769 48)) H := hP
          have hD : va_D A (w10 h0 X C (F_768 0) (F_768 1) (F_768 2) (F_768 3) (F_768 4) (F_768 5) (F_768 6) (F_768 7) (F_768 8) (F_768 10) (F_768 13) (F_768 14) (F_768 15) (F_768 16) (F_768 17) (F_768 18) (F_768 19) (F_768 20) (F_768 21) (F_768 22) (F_768 23) (F_768 24) (F_768 25) (F_768 26) (F_768 27) (F_768 28) (F_768 29) (F_768 30) (F_768 31) (F_768 32) (F_768 33) (F_768 34) (F_768 35) (F_768 36) (F_768 37) (F_768 38) (F_768 39) (F_768 40) (F_768 41) (F_768 42) (F_768 43) (F_768 49) (F_768 50) (F_768 51) (F_768 52) (F_768 53) (F_768 54) (F_768 55) (F_768 56) (F_768 57) (F_768 58) (F_768 59) (n_769 9) (n_769 11) (n_769 12) (n_769 44) (n_769 45) (n_769 46) (n_769 47) (n_769 48)) := hD
          have w_800 : ((n 11)).toInt ≤ (n_769 11).toInt := hw
          try simp only [upd_eq] at w_800
          exact W.vret hx hb hr (fun t ht hW => ⟨⟨(F_768, n_769), rfl, (by show (n 11).toInt ≤ ((n_769 11)).toInt; omega), by rw [ht]; exact hP, hD, I10_mono (k := kp) ⟨b_771, b_772, b_773, b_774, b_775, b_776, b_777, b_778, b_779, b_780, b_781, b_782, i_783, i_784, i_785, i_786, i_787, i_788, i_789, j_790, j_791, j_792, j_793, j_794, j_795, j_796, j_797, j_798, j_799⟩ (by omega)⟩, hS.F ht⟩) hS.2.2 dX10_does_514
        · simp only [i_lt, i_le, i_eq, ti_0] at c_763
          refine lv_iconst (v := 1) hx hb dX10_does_440 (by decide) ?_
          refine lv_goto (tgt := 445) hx hb dX10_does_441 (by decide) ?_
          refine lv_istore (lv' := [(5, .int 1), (4, .int z_76), (3, .int z_75), (2, .int z_33), (0, .ref h0), (1, .int v1)]) hx hb dX10_does_445 hl (by decide) rfl (fun ls hl => ?_)
          refine lv_iload hx hb dX10_does_447 (lv_at hl 0 rfl) ?_
          refine lv_if_eq (tgt := 484) hx hb dX10_does_449 (by decide) (fun c_801 => absurd c_801 (by decide)) (fun _ => ?_)
          refine lv_aload_n hx hb dX10_does_452 rfl (lv_at hl 4 rfl) ?_
          refine va_get (D := (dC, dI)) (ci := 10) (v := .ref (X 39)) (C := RX10) (T := TX10) (N := 60) hx hb hg gb_10 hown hK hP 0 rfl rfl 39 (by decide) (hg _ gm_fieldLink_RX10_123_ErrandGuildModel_tryMany_AI_) (fun _ h9 => h9) rfl dX10_does_453 ?_
          refine lv_iload_n hx hb dX10_does_456 rfl (lv_at hl 5 rfl) ?_
          refine lv_aload_n hx hb dX10_does_457 rfl (lv_at hl 4 rfl) ?_
          refine va_get (D := (dC, dI)) (ci := 10) (v := .ref (X 39)) (C := RX10) (T := TX10) (N := 60) hx hb hg gb_10 hown hK hP 0 rfl rfl 39 (by decide) (hg _ gm_fieldLink_RX10_123_ErrandGuildModel_tryMany_AI_) (fun _ h9 => h9) rfl dX10_does_458 ?_
          refine lv_iload_n hx hb dX10_does_461 rfl (lv_at hl 5 rfl) ?_
          refine va_iald (f := F 39) hx hb hK hP 37 36 rfl rfl (vp_in_iff.mpr ⟨by omega, by omega⟩) dX10_does_462 ?_
          refine lv_topi (fun z_802 ez_802 => ?_)
          obtain rfl : z_762 = z_802 := ez_762.trans ez_802.symm
          refine lv_iconst (v := 1) hx hb dX10_does_463 (by decide) ?_
          refine lv_isub hx hb dX10_does_464 ?_
          refine lv_topi (fun z_803 ez_803 => ?_)
          have tz_803 : z_803.toInt = z_762.toInt - 1 := ar_sub rfl ti_1 ez_803 (by omega)
          refine va_iast (f := F 39) hx hb hK hP hD hS 37 36 rfl rfl (vp_in_iff.mpr ⟨by omega, by omega⟩) dX10_does_465 (fun H locs hP hD hS => ?_)
          have hP : va_P (dC, dI) vwCl (w10 h0 X C (F 0) (F 1) (F 2) (F 3) (F 4) (F 5) (F 6) (F 7) (F 8) (F 10) (F 13) (F 14) (F 15) (F 16) (F 17) (F 18) (F 19) (F 20) (F 21) (F 22) (F 23) (F 24) (F 25) (F 26) (F 27) (F 28) (F 29) (F 30) (F 31) (F 32) (F 33) (F 34) (F 35) (F 36) (F 37) (F 38) (upd (F 39) (Int32.toNatClampNeg v1) z_803) (F 40) (F 41) (F 42) (F 43) (F 49) (F 50) (F 51) (F 52) (F 53) (F 54) (F 55) (F 56) (F 57) (F 58) (F 59) (n 9) (n 11) (n 12) (n 44) (n 45) (n 46) (n 47) (n 48)) H := hP
          have hD : va_D A (w10 h0 X C (F 0) (F 1) (F 2) (F 3) (F 4) (F 5) (F 6) (F 7) (F 8) (F 10) (F 13) (F 14) (F 15) (F 16) (F 17) (F 18) (F 19) (F 20) (F 21) (F 22) (F 23) (F 24) (F 25) (F 26) (F 27) (F 28) (F 29) (F 30) (F 31) (F 32) (F 33) (F 34) (F 35) (F 36) (F 37) (F 38) (upd (F 39) (Int32.toNatClampNeg v1) z_803) (F 40) (F 41) (F 42) (F 43) (F 49) (F 50) (F 51) (F 52) (F 53) (F 54) (F 55) (F 56) (F 57) (F 58) (F 59) (n 9) (n 11) (n 12) (n 44) (n 45) (n 46) (n 47) (n 48)) := hD
          have b_804 := bd_upd b_11 (Int32.toNatClampNeg v1) (x := z_803) (by omega) (by omega)
          have p39 := b_11 (Int32.toNatClampNeg v1)
          have j_805 : J2 (upd (F 39) (Int32.toNatClampNeg v1) z_803) (F 20) := J2_tm j_22 (Int32.toNatClampNeg v1) (by have h_ := j_22 (Int32.toNatClampNeg v1); omega)
          have j_806 : J4 (upd (F 39) (Int32.toNatClampNeg v1) z_803) (F 41) := J4_tm j_24 (Int32.toNatClampNeg v1) (Or.inl (by omega))
          have j_807 : J5 (upd (F 39) (Int32.toNatClampNeg v1) z_803) (F 36) (F 41) (F 43) (F 42) := J5_tm j_25 (Int32.toNatClampNeg v1) (Or.inl (by omega))
          refine lv_goto (tgt := 484) hx hb dX10_does_466 (by decide) ?_
          refine lv_iload hx hb dX10_does_484 (lv_at hl 0 rfl) ?_
          refine lv_if_eq (tgt := 506) hx hb dX10_does_486 (by decide) (fun c_808 => absurd c_808 (by decide)) (fun _ => ?_)
          refine lv_aload_n hx hb dX10_does_489 rfl (lv_at hl 4 rfl) ?_
          refine va_get (D := (dC, dI)) (ci := 10) (v := .ref (X 20)) (C := RX10) (T := TX10) (N := 60) hx hb hg gb_10 hown hK hP 0 rfl rfl 20 (by decide) (hg _ gm_fieldLink_RX10_66_ErrandGuildModel_place_AI_) (fun _ h9 => h9) rfl dX10_does_490 ?_
          refine lv_iload_n hx hb dX10_does_493 rfl (lv_at hl 5 rfl) ?_
          refine lv_aload_n hx hb dX10_does_494 rfl (lv_at hl 4 rfl) ?_
          refine va_get (D := (dC, dI)) (ci := 10) (v := .ref (X 20)) (C := RX10) (T := TX10) (N := 60) hx hb hg gb_10 hown hK hP 0 rfl rfl 20 (by decide) (hg _ gm_fieldLink_RX10_66_ErrandGuildModel_place_AI_) (fun _ h9 => h9) rfl dX10_does_495 ?_
          refine lv_iload_n hx hb dX10_does_498 rfl (lv_at hl 5 rfl) ?_
          refine va_iald (f := F 20) hx hb hK hP 18 17 rfl rfl (vp_in_iff.mpr ⟨by omega, by omega⟩) dX10_does_499 ?_
          refine lv_topi (fun z_809 ez_809 => ?_)
          obtain rfl : z_32 = z_809 := ez_32.trans ez_809.symm
          refine lv_iconst (v := 1) hx hb dX10_does_500 (by decide) ?_
          refine lv_iadd hx hb dX10_does_501 ?_
          refine lv_topi (fun z_810 ez_810 => ?_)
          have tz_810 : z_810.toInt = z_32.toInt + 1 := ar_add rfl ti_1 ez_810 (by omega)
          refine va_iast (f := F 20) hx hb hK hP hD hS 18 17 rfl rfl (vp_in_iff.mpr ⟨by omega, by omega⟩) dX10_does_502 (fun H locs hP hD hS => ?_)
          have hP : va_P (dC, dI) vwCl (w10 h0 X C (F 0) (F 1) (F 2) (F 3) (F 4) (F 5) (F 6) (F 7) (F 8) (F 10) (F 13) (F 14) (F 15) (F 16) (F 17) (F 18) (F 19) (upd (F 20) (Int32.toNatClampNeg v1) z_810) (F 21) (F 22) (F 23) (F 24) (F 25) (F 26) (F 27) (F 28) (F 29) (F 30) (F 31) (F 32) (F 33) (F 34) (F 35) (F 36) (F 37) (F 38) (upd (F 39) (Int32.toNatClampNeg v1) z_803) (F 40) (F 41) (F 42) (F 43) (F 49) (F 50) (F 51) (F 52) (F 53) (F 54) (F 55) (F 56) (F 57) (F 58) (F 59) (n 9) (n 11) (n 12) (n 44) (n 45) (n 46) (n 47) (n 48)) H := hP
          have hD : va_D A (w10 h0 X C (F 0) (F 1) (F 2) (F 3) (F 4) (F 5) (F 6) (F 7) (F 8) (F 10) (F 13) (F 14) (F 15) (F 16) (F 17) (F 18) (F 19) (upd (F 20) (Int32.toNatClampNeg v1) z_810) (F 21) (F 22) (F 23) (F 24) (F 25) (F 26) (F 27) (F 28) (F 29) (F 30) (F 31) (F 32) (F 33) (F 34) (F 35) (F 36) (F 37) (F 38) (upd (F 39) (Int32.toNatClampNeg v1) z_803) (F 40) (F 41) (F 42) (F 43) (F 49) (F 50) (F 51) (F 52) (F 53) (F 54) (F 55) (F 56) (F 57) (F 58) (F 59) (n 9) (n 11) (n 12) (n 44) (n 45) (n 46) (n 47) (n 48)) := hD
          have b_811 := bd_upd b_8 (Int32.toNatClampNeg v1) (x := z_810) (by omega) (by omega)
          have j_812 : J2 (upd (F 39) (Int32.toNatClampNeg v1) z_803) (upd (F 20) (Int32.toNatClampNeg v1) z_810) := J2_pl j_805 (Int32.toNatClampNeg v1) (by have h_ := j_805 (Int32.toNatClampNeg v1); omega)
          have j_813 : J2 (F 36) (upd (F 20) (Int32.toNatClampNeg v1) z_810) := J2_pl j_23 (Int32.toNatClampNeg v1) (by have h_ := j_23 (Int32.toNatClampNeg v1); omega)
          have j_814 : J7 (F 24) (upd (F 20) (Int32.toNatClampNeg v1) z_810) := J7_pl j_27 (Int32.toNatClampNeg v1) (Or.inl (by omega))
          refine lv_goto (tgt := 514) hx hb dX10_does_503 (by decide) ?_
          exact W.vret hx hb hr (fun t ht hW => ⟨⟨((fun k => ([F 0, F 1, F 2, F 3, F 4, F 5, F 6, F 7, F 8, (fun _ => 0), F 10, (fun _ => 0), (fun _ => 0), F 13, F 14, F 15, F 16, F 17, F 18, F 19, upd (F 20) (Int32.toNatClampNeg v1) z_810, F 21, F 22, F 23, F 24, F 25, F 26, F 27, F 28, F 29, F 30, F 31, F 32, F 33, F 34, F 35, F 36, F 37, F 38, upd (F 39) (Int32.toNatClampNeg v1) z_803, F 40, F 41, F 42, F 43, (fun _ => 0), (fun _ => 0), (fun _ => 0), (fun _ => 0), (fun _ => 0), F 49, F 50, F 51, F 52, F 53, F 54, F 55, F 56, F 57, F 58, F 59] : List (Nat → Int32)).getD k (fun _ => 0)), n), rfl, (Int.le_refl _), by rw [ht]; exact hP, hD, I10_mono (k := kp) ⟨b_1, b_2, b_3, b_4, b_5, b_6, b_7, b_811, b_9, b_10, b_804, b_12, i_13, i_14, i_15, i_16, i_17, i_18, i_19, j_20, j_21, j_812, j_813, j_806, j_807, j_26, j_814, j_28, j_29⟩ (by omega)⟩, hS.F ht⟩) hS.2.2 dX10_does_514
    · simp only [i_lt, i_le, i_eq, ti_12] at c_74
      refine lv_aload_n hx hb dX10_does_48 rfl (lv_at hl 1 rfl) ?_
      refine lv_iload_n hx hb dX10_does_49 rfl (lv_at hl 2 rfl) ?_
      refine lv_iconst (v := 3) hx hb dX10_does_50 (by decide) ?_
      have hFc := free_all hD hS hA
      refine va_callv (va_runV (As := [.int v1, .int 3]) (rest := []) ⟨hx, hb, hml, hown, hg⟩ (c_X10_goes l dC dI kp h0 X C F n v1 3 s.heap.size ⟨b_1, b_2, b_3, b_4, b_5, b_6, b_7, b_8, b_9, b_10, b_11, b_12, i_13, i_14, i_15, i_16, i_17, i_18, i_19, j_20, j_21, j_22, j_23, j_24, j_25, j_26, j_27, j_28, j_29⟩ (by have t_0 := ti_3; omega) (by have t_0 := ti_3; show v1.toInt < ((n 11)).toInt; omega) (by have t_0 := ti_3; show ((F 13) (Int32.toNatClampNeg v1)).toInt = 1; omega) (by have t_0 := ti_3; omega)) (cwV 2 hg (gw_V gm_methodLink_RX10_221_yX10_goes gm_instanceMethod_yX10_goes gm_selects_RX10_yX10_goes_yX10_goes gm_initialized_RX10 gm_code_yX10_goes_cX10_goes_4_none) rfl rfl rfl (by decide +kernel) ⟨Nat.le_of_ble_eq_true rfl, Nat.le_of_ble_eq_true rfl⟩) ⟨fun a U g mk q => by obtain ⟨q0, q1, qP, qK, qD, qN⟩ := q; exact ⟨q0, q1, qP, va_K.moved (u := U) (U := U.calling g mk a) (Vm.Alike.refl U.vm) qK, qD, nx_same (u := U) (U := U.calling g mk a) rfl qN⟩, va_recv hK hP (ci := 10) (q0 := 0) rfl rfl, fun U hU hW => ⟨rfl, by rw [hU], by rw [hU]; exact hP, va_K.moved hW.alike hK, hD.weaken (fun _ _ _ _ => trivial), nx_warm hW hN⟩⟩ rfl rfl hl.1 rfl (lv_room (Nat.le_of_ble_eq_true rfl)) dX10_does_51 ⟨Nat.le_of_ble_eq_true rfl, Nat.le_of_ble_eq_true rfl⟩) hS (fun q _ h => hFc q h) hFc (fun u_816 t H1 locs ht hvm hw hB hz1 hk1 hS => ?_)
      obtain ⟨F_817, n_818⟩ := u_816
      obtain ⟨hP, hD, hI_819⟩ := hB
      have hI_819 : I10 kp F_817 n_818 := hI_819
      obtain ⟨b_820, b_821, b_822, b_823, b_824, b_825, b_826, b_827, b_828, b_829, b_830, b_831, i_832, i_833, i_834, i_835, i_836, i_837, i_838, j_839, j_840, j_841, j_842, j_843, j_844, j_845, j_846, j_847, j_848⟩ := id hI_819
      rw [ht] at hP
      have hD := hD.weaken (fun k q _ h => hFc _ h)
      generalize H1 = H at hP hS ⊢
      have hP : va_P (dC, dI) vwCl (w10 h0 X C (F_817 0) (F_817 1) (F_817 2) (F_817 3) (F_817 4) (F_817 5) (F_817 6) (F_817 7) (F_817 8) (F_817 10) (F_817 13) (F_817 14) (F_817 15) (F_817 16) (F_817 17) (F_817 18) (F_817 19) (F_817 20) (F_817 21) (F_817 22) (F_817 23) (F_817 24) (F_817 25) (F_817 26) (F_817 27) (F_817 28) (F_817 29) (F_817 30) (F_817 31) (F_817 32) (F_817 33) (F_817 34) (F_817 35) (F_817 36) (F_817 37) (F_817 38) (F_817 39) (F_817 40) (F_817 41) (F_817 42) (F_817 43) (F_817 49) (F_817 50) (F_817 51) (F_817 52) (F_817 53) (F_817 54) (F_817 55) (F_817 56) (F_817 57) (F_817 58) (F_817 59) (n_818 9) (n_818 11) (n_818 12) (n_818 44) (n_818 45) (n_818 46) (n_818 47) (n_818 48)) H := hP
      have hD : va_D A (w10 h0 X C (F_817 0) (F_817 1) (F_817 2) (F_817 3) (F_817 4) (F_817 5) (F_817 6) (F_817 7) (F_817 8) (F_817 10) (F_817 13) (F_817 14) (F_817 15) (F_817 16) (F_817 17) (F_817 18) (F_817 19) (F_817 20) (F_817 21) (F_817 22) (F_817 23) (F_817 24) (F_817 25) (F_817 26) (F_817 27) (F_817 28) (F_817 29) (F_817 30) (F_817 31) (F_817 32) (F_817 33) (F_817 34) (F_817 35) (F_817 36) (F_817 37) (F_817 38) (F_817 39) (F_817 40) (F_817 41) (F_817 42) (F_817 43) (F_817 49) (F_817 50) (F_817 51) (F_817 52) (F_817 53) (F_817 54) (F_817 55) (F_817 56) (F_817 57) (F_817 58) (F_817 59) (n_818 9) (n_818 11) (n_818 12) (n_818 44) (n_818 45) (n_818 46) (n_818 47) (n_818 48)) := hD
      have w_849 : ((n 11)).toInt ≤ (n_818 11).toInt := hw
      try simp only [upd_eq] at w_849
      exact W.vret hx hb hr (fun t ht hW => ⟨⟨(F_817, n_818), rfl, (by show (n 11).toInt ≤ ((n_818 11)).toInt; omega), by rw [ht]; exact hP, hD, I10_mono (k := kp) ⟨b_820, b_821, b_822, b_823, b_824, b_825, b_826, b_827, b_828, b_829, b_830, b_831, i_832, i_833, i_834, i_835, i_836, i_837, i_838, j_839, j_840, j_841, j_842, j_843, j_844, j_845, j_846, j_847, j_848⟩ (by omega)⟩, hS.F ht⟩) hS.2.2 dX10_does_54

set_option maxHeartbeats 8000000 in
set_option maxRecDepth 100000 in
theorem c_X10_turn (l : Launch) (dC : Nat → ClassId) (dI : Nat → Nat → Nat) (kp : Int) (h0 : Nat) (X : Nat → Nat) (C : Nat → ClassId) (F : Nat → Nat → Int32) (n : Nat → Int32) (v1 : Int32) (sz : Nat) (hI : I10 kp F n) (hr : 0 ≤ v1.toInt ∧ v1.toInt < 200) (hrn : v1.toInt < (n 11).toInt) (hs1 : (F 13 (Int32.toNatClampNeg v1)).toInt = 1) (hkp : kp ≤ 1999999999) : Met l yX10_turn (.code yX10_turn cX10_turn 2 none :: gw) ({ frames := 5, cells := 0, slots := 0, locals := 122 }) (va_Pc [.ref h0, .int v1] (fun U => U.heap.size = sz ∧ va_P (dC, dI) vwCl (w10 h0 X C (F 0) (F 1) (F 2) (F 3) (F 4) (F 5) (F 6) (F 7) (F 8) (F 10) (F 13) (F 14) (F 15) (F 16) (F 17) (F 18) (F 19) (F 20) (F 21) (F 22) (F 23) (F 24) (F 25) (F 26) (F 27) (F 28) (F 29) (F 30) (F 31) (F 32) (F 33) (F 34) (F 35) (F 36) (F 37) (F 38) (F 39) (F 40) (F 41) (F 42) (F 43) (F 49) (F 50) (F 51) (F 52) (F 53) (F 54) (F 55) (F 56) (F 57) (F 58) (F 59) (n 9) (n 11) (n 12) (n 44) (n 45) (n 46) (n 47) (n 48)) U.heap ∧ va_K (dC, dI) vwCl (t10 C) U ∧ va_D (fun _ => True) (w10 h0 X C (F 0) (F 1) (F 2) (F 3) (F 4) (F 5) (F 6) (F 7) (F 8) (F 10) (F 13) (F 14) (F 15) (F 16) (F 17) (F 18) (F 19) (F 20) (F 21) (F 22) (F 23) (F 24) (F 25) (F 26) (F 27) (F 28) (F 29) (F 30) (F 31) (F 32) (F 33) (F 34) (F 35) (F 36) (F 37) (F 38) (F 39) (F 40) (F 41) (F 42) (F 43) (F 49) (F 50) (F 51) (F 52) (F 53) (F 54) (F 55) (F 56) (F 57) (F 58) (F 59) (n 9) (n 11) (n 12) (n 44) (n 45) (n 46) (n 47) (n 48)) ∧ nx U)) (va_Qv (fun (u : (Nat → Nat → Int32) × (Nat → Int32)) => (n 11).toInt ≤ (u.2 11).toInt) (fun u t => va_P (dC, dI) vwCl (w10 h0 X C (u.1 0) (u.1 1) (u.1 2) (u.1 3) (u.1 4) (u.1 5) (u.1 6) (u.1 7) (u.1 8) (u.1 10) (u.1 13) (u.1 14) (u.1 15) (u.1 16) (u.1 17) (u.1 18) (u.1 19) (u.1 20) (u.1 21) (u.1 22) (u.1 23) (u.1 24) (u.1 25) (u.1 26) (u.1 27) (u.1 28) (u.1 29) (u.1 30) (u.1 31) (u.1 32) (u.1 33) (u.1 34) (u.1 35) (u.1 36) (u.1 37) (u.1 38) (u.1 39) (u.1 40) (u.1 41) (u.1 42) (u.1 43) (u.1 49) (u.1 50) (u.1 51) (u.1 52) (u.1 53) (u.1 54) (u.1 55) (u.1 56) (u.1 57) (u.1 58) (u.1 59) (u.2 9) (u.2 11) (u.2 12) (u.2 44) (u.2 45) (u.2 46) (u.2 47) (u.2 48)) t.heap ∧ va_D (va_A (w10 h0 X C (F 0) (F 1) (F 2) (F 3) (F 4) (F 5) (F 6) (F 7) (F 8) (F 10) (F 13) (F 14) (F 15) (F 16) (F 17) (F 18) (F 19) (F 20) (F 21) (F 22) (F 23) (F 24) (F 25) (F 26) (F 27) (F 28) (F 29) (F 30) (F 31) (F 32) (F 33) (F 34) (F 35) (F 36) (F 37) (F 38) (F 39) (F 40) (F 41) (F 42) (F 43) (F 49) (F 50) (F 51) (F 52) (F 53) (F 54) (F 55) (F 56) (F 57) (F 58) (F 59) (n 9) (n 11) (n 12) (n 44) (n 45) (n 46) (n 47) (n 48)) sz) (w10 h0 X C (u.1 0) (u.1 1) (u.1 2) (u.1 3) (u.1 4) (u.1 5) (u.1 6) (u.1 7) (u.1 8) (u.1 10) (u.1 13) (u.1 14) (u.1 15) (u.1 16) (u.1 17) (u.1 18) (u.1 19) (u.1 20) (u.1 21) (u.1 22) (u.1 23) (u.1 24) (u.1 25) (u.1 26) (u.1 27) (u.1 28) (u.1 29) (u.1 30) (u.1 31) (u.1 32) (u.1 33) (u.1 34) (u.1 35) (u.1 36) (u.1 37) (u.1 38) (u.1 39) (u.1 40) (u.1 41) (u.1 42) (u.1 43) (u.1 49) (u.1 50) (u.1 51) (u.1 52) (u.1 53) (u.1 54) (u.1 55) (u.1 56) (u.1 57) (u.1 58) (u.1 59) (u.2 9) (u.2 11) (u.2 12) (u.2 44) (u.2 45) (u.2 46) (u.2 47) (u.2 48)) ∧ I10 (kp + 2) u.1 u.2) (va_A (w10 h0 X C (F 0) (F 1) (F 2) (F 3) (F 4) (F 5) (F 6) (F 7) (F 8) (F 10) (F 13) (F 14) (F 15) (F 16) (F 17) (F 18) (F 19) (F 20) (F 21) (F 22) (F 23) (F 24) (F 25) (F 26) (F 27) (F 28) (F 29) (F 30) (F 31) (F 32) (F 33) (F 34) (F 35) (F 36) (F 37) (F 38) (F 39) (F 40) (F 41) (F 42) (F 43) (F 49) (F 50) (F 51) (F 52) (F 53) (F 54) (F 55) (F 56) (F 57) (F 58) (F 59) (n 9) (n 11) (n 12) (n 44) (n 45) (n 46) (n 47) (n 48)) sz)) 0 0 (va_A (w10 h0 X C (F 0) (F 1) (F 2) (F 3) (F 4) (F 5) (F 6) (F 7) (F 8) (F 10) (F 13) (F 14) (F 15) (F 16) (F 17) (F 18) (F 19) (F 20) (F 21) (F 22) (F 23) (F 24) (F 25) (F 26) (F 27) (F 28) (F 29) (F 30) (F 31) (F 32) (F 33) (F 34) (F 35) (F 36) (F 37) (F 38) (F 39) (F 40) (F 41) (F 42) (F 43) (F 49) (F 50) (F 51) (F 52) (F 53) (F 54) (F 55) (F 56) (F 57) (F 58) (F 59) (n 9) (n 11) (n 12) (n 44) (n 45) (n 46) (n 47) (n 48)) sz) := by
  refine Met.ofW (cc := cX10_turn) (maxL := 2) (ret := none) (by decide) rfl ?_
  intro p e s m args below meth c s₁ B hml hv
  obtain ⟨rfl, hsz, hP, hK, hD0, hN⟩ := hv
  have hx := B.exec
  have hb := B.bytes
  have hr := B.returns
  have hts := atoms_spec (ws := .code yX10_turn cX10_turn 2 none :: gw) B.pre
  have hg : ∀ w ∈ gw, w.before _ s = true := fun w h => hts w (List.mem_cons_of_mem _ h)
  have hown : s.vm.findClass RX10 = some m.cls := findClass_of_methodNamed B.named
  have hlocks := B.notSynchronized
  subst hsz
  have hD := hD0.self (sz := s.heap.size)
  generalize hAe : va_A (w10 h0 X C (F 0) (F 1) (F 2) (F 3) (F 4) (F 5) (F 6) (F 7) (F 8) (F 10) (F 13) (F 14) (F 15) (F 16) (F 17) (F 18) (F 19) (F 20) (F 21) (F 22) (F 23) (F 24) (F 25) (F 26) (F 27) (F 28) (F 29) (F 30) (F 31) (F 32) (F 33) (F 34) (F 35) (F 36) (F 37) (F 38) (F 39) (F 40) (F 41) (F 42) (F 43) (F 49) (F 50) (F 51) (F 52) (F 53) (F 54) (F 55) (F 56) (F 57) (F 58) (F 59) (n 9) (n 11) (n 12) (n 44) (n 45) (n 46) (n 47) (n 48)) s.heap.size = A at hD ⊢
  have hA : ∀ q : Nat, s.heap.size ≤ q → A q := fun q h => by rw [← hAe]; exact Or.inr h
  have hS : va_S A s.heap s.heap [] := va_S.rf
  have hP : va_P (dC, dI) vwCl (w10 h0 X C (F 0) (F 1) (F 2) (F 3) (F 4) (F 5) (F 6) (F 7) (F 8) (F 10) (F 13) (F 14) (F 15) (F 16) (F 17) (F 18) (F 19) (F 20) (F 21) (F 22) (F 23) (F 24) (F 25) (F 26) (F 27) (F 28) (F 29) (F 30) (F 31) (F 32) (F 33) (F 34) (F 35) (F 36) (F 37) (F 38) (F 39) (F 40) (F 41) (F 42) (F 43) (F 49) (F 50) (F 51) (F 52) (F 53) (F 54) (F 55) (F 56) (F 57) (F 58) (F 59) (n 9) (n 11) (n 12) (n 44) (n 45) (n 46) (n 47) (n 48)) s.heap := hP
  have hl := lv_entry ([.ref h0, .int v1]) (n := 2) (Nat.le_of_ble_eq_true rfl)
  rw [lg_entry_eq]
  generalize (lg_sl ([.ref h0, .int v1]) ++ List.replicate (2 - (lg_sl ([.ref h0, .int v1])).length) Slot.unset).toArray = ls at hl ⊢
  have hl : lv_has ls 2 [(0, .ref h0), (1, .int v1)] := hl
  obtain ⟨b_1, b_2, b_3, b_4, b_5, b_6, b_7, b_8, b_9, b_10, b_11, b_12, i_13, i_14, i_15, i_16, i_17, i_18, i_19, j_20, j_21, j_22, j_23, j_24, j_25, j_26, j_27, j_28, j_29⟩ := id hI
  have ce1 := cl_eq v1
  have h18 := j_21 (Int32.toNatClampNeg v1) hs1
  refine lv_aload_n hx hb dX10_turn_0 rfl (lv_at hl 0 rfl) ?_
  refine va_get (D := (dC, dI)) (ci := 10) (v := .int (n 48)) (C := RX10) (T := TX10) (N := 60) hx hb hg gb_10 hown hK hP 0 rfl rfl 48 (by decide) (hg _ gm_fieldLink_RX10_198_ErrandGuildModel_orderMany_I_) (fun _ h9 => h9) rfl dX10_turn_1 ?_
  refine lv_sipush (v := 2000) hx hb dX10_turn_4 (by decide) ?_
  refine lv_icmp_ge (tgt := 31) hx hb dX10_turn_7 (by decide) (fun c_30 => ?_) (fun c_30 => ?_)
  · simp only [i_lt, i_le, i_eq, ti_2000] at c_30
    refine lv_aload_n hx hb dX10_turn_31 rfl (lv_at hl 0 rfl) ?_
    refine lv_aload_n hx hb dX10_turn_32 rfl (lv_at hl 0 rfl) ?_
    refine va_get (D := (dC, dI)) (ci := 10) (v := .int (n 48)) (C := RX10) (T := TX10) (N := 60) hx hb hg gb_10 hown hK hP 0 rfl rfl 48 (by decide) (hg _ gm_fieldLink_RX10_198_ErrandGuildModel_orderMany_I_) (fun _ h9 => h9) rfl dX10_turn_33 ?_
    refine lv_iconst (v := 1) hx hb dX10_turn_36 (by decide) ?_
    refine lv_iadd hx hb dX10_turn_37 ?_
    refine lv_topi (fun z_31 ez_31 => ?_)
    have tz_31 : z_31.toInt = (n 48).toInt + 1 := ar_add rfl ti_1 ez_31 (by omega)
    refine va_put (D := (dC, dI)) (ci := 10) (v := .int z_31) (ty := .int) (C := RX10) (T := TX10) (N := 60) hx hb hg gb_10 tyX10 tyX10_ok nmX10 hown hK hP hD hS 0 rfl rfl 48 (by decide) (hg _ gm_fieldLink_RX10_198_ErrandGuildModel_orderMany_I_) (fun _ h9 => h9) rfl (by decide +kernel) rfl rfl (Nat.le_of_ble_eq_true rfl) dX10_turn_38 (fun H locs hP hD hS => ?_)
    have hP : va_P (dC, dI) vwCl (w10 h0 X C (F 0) (F 1) (F 2) (F 3) (F 4) (F 5) (F 6) (F 7) (F 8) (F 10) (F 13) (F 14) (F 15) (F 16) (F 17) (F 18) (F 19) (F 20) (F 21) (F 22) (F 23) (F 24) (F 25) (F 26) (F 27) (F 28) (F 29) (F 30) (F 31) (F 32) (F 33) (F 34) (F 35) (F 36) (F 37) (F 38) (F 39) (F 40) (F 41) (F 42) (F 43) (F 49) (F 50) (F 51) (F 52) (F 53) (F 54) (F 55) (F 56) (F 57) (F 58) (F 59) (n 9) (n 11) (n 12) (n 44) (n 45) (n 46) (n 47) z_31) H := hP
    have hD : va_D A (w10 h0 X C (F 0) (F 1) (F 2) (F 3) (F 4) (F 5) (F 6) (F 7) (F 8) (F 10) (F 13) (F 14) (F 15) (F 16) (F 17) (F 18) (F 19) (F 20) (F 21) (F 22) (F 23) (F 24) (F 25) (F 26) (F 27) (F 28) (F 29) (F 30) (F 31) (F 32) (F 33) (F 34) (F 35) (F 36) (F 37) (F 38) (F 39) (F 40) (F 41) (F 42) (F 43) (F 49) (F 50) (F 51) (F 52) (F 53) (F 54) (F 55) (F 56) (F 57) (F 58) (F 59) (n 9) (n 11) (n 12) (n 44) (n 45) (n 46) (n 47) z_31) := hD
    have i_33 : 0 ≤ (n 44).toInt ∧ (n 44).toInt ≤ (kp + 1) := by omega
    have i_34 : 0 ≤ (n 45).toInt ∧ (n 45).toInt ≤ (kp + 1) := by omega
    have i_32 : 0 ≤ z_31.toInt ∧ z_31.toInt ≤ (kp + 1) := by omega
    refine lv_aload_n hx hb dX10_turn_41 rfl (lv_at hl 0 rfl) ?_
    refine va_get (D := (dC, dI)) (ci := 10) (v := .ref (X 25)) (C := RX10) (T := TX10) (N := 60) hx hb hg gb_10 hown hK hP 0 rfl rfl 25 (by decide) (hg _ gm_fieldLink_RX10_81_ErrandGuildModel_isTold_AZ_) (fun _ h9 => h9) rfl dX10_turn_42 ?_
    refine lv_iload_n hx hb dX10_turn_45 rfl (lv_at hl 1 rfl) ?_
    refine va_zald (f := F 25) hx hb hK hP 23 22 rfl rfl (vp_in_iff.mpr ⟨by omega, by omega⟩) dX10_turn_46 ?_
    refine lv_topi (fun z_35 ez_35 => ?_)
    have qz_35 := congrArg Int32.toInt ez_35
    refine lv_if_eq (tgt := 75) hx hb dX10_turn_47 (by decide) (fun c_36 => ?_) (fun c_36 => ?_)
    · simp only [i_lt, i_le, i_eq, ti_0] at c_36
      refine lv_aload_n hx hb dX10_turn_75 rfl (lv_at hl 0 rfl) ?_
      refine va_get (D := (dC, dI)) (ci := 10) (v := .ref (X 24)) (C := RX10) (T := TX10) (N := 60) hx hb hg gb_10 hown hK hP 0 rfl rfl 24 (by decide) (hg _ gm_fieldLink_RX10_78_ErrandGuildModel_isBack_AZ_) (fun _ h9 => h9) rfl dX10_turn_76 ?_
      refine lv_iload_n hx hb dX10_turn_79 rfl (lv_at hl 1 rfl) ?_
      refine va_zald (f := F 24) hx hb hK hP 22 21 rfl rfl (vp_in_iff.mpr ⟨by omega, by omega⟩) dX10_turn_80 ?_
      refine lv_topi (fun z_37 ez_37 => ?_)
      have qz_37 := congrArg Int32.toInt ez_37
      have j7i := j_27 (Int32.toNatClampNeg v1)
      refine lv_if_eq (tgt := 99) hx hb dX10_turn_81 (by decide) (fun c_38 => ?_) (fun c_38 => ?_)
      · simp only [i_lt, i_le, i_eq, ti_0] at c_38
        refine lv_aload_n hx hb dX10_turn_99 rfl (lv_at hl 0 rfl) ?_
        refine lv_iload_n hx hb dX10_turn_100 rfl (lv_at hl 1 rfl) ?_
        have hFc := free_all hD hS hA
        refine va_callv (va_runV (As := [.int v1]) (rest := []) ⟨hx, hb, hml, hown, hg⟩ (c_X10_does l dC dI (kp + 1) h0 X C F (fun k => ([0, 0, 0, 0, 0, 0, 0, 0, 0, n 9, 0, n 11, n 12, 0, 0, 0, 0, 0, 0, 0, 0, 0, 0, 0, 0, 0, 0, 0, 0, 0, 0, 0, 0, 0, 0, 0, 0, 0, 0, 0, 0, 0, 0, 0, n 44, n 45, n 46, n 47, z_31, 0, 0, 0, 0, 0, 0, 0, 0, 0, 0, 0] : List Int32).getD k 0) v1 H.size ⟨b_1, b_2, b_3, b_4, b_5, b_6, b_7, b_8, b_9, b_10, b_11, b_12, i_13, i_14, i_33, i_34, i_17, i_18, i_32, j_20, j_21, j_22, j_23, j_24, j_25, j_26, j_27, j_28, j_29⟩ (by omega) (by show v1.toInt < ((n 11)).toInt; omega) (by show ((F 13) (Int32.toNatClampNeg v1)).toInt = 1; omega) (by show ((F 24) (Int32.toNatClampNeg v1)).toInt = 0; omega) (by omega)) (cwV 1 hg (gw_V gm_methodLink_RX10_259_yX10_does gm_instanceMethod_yX10_does gm_selects_RX10_yX10_does_yX10_does gm_initialized_RX10 gm_code_yX10_does_cX10_does_7_none) rfl rfl rfl (by decide +kernel) ⟨Nat.le_of_ble_eq_true rfl, Nat.le_of_ble_eq_true rfl⟩) ⟨fun a U g mk q => by obtain ⟨q0, q1, qP, qK, qD, qN⟩ := q; exact ⟨q0, q1, qP, va_K.moved (u := U) (U := U.calling g mk a) (Vm.Alike.refl U.vm) qK, qD, nx_same (u := U) (U := U.calling g mk a) rfl qN⟩, va_recv hK hP (ci := 10) (q0 := 0) rfl rfl, fun U hU hW => ⟨rfl, by rw [hU], by rw [hU]; exact hP, va_K.moved hW.alike hK, hD.weaken (fun _ _ _ _ => trivial), nx_warm hW hN⟩⟩ rfl rfl hl.1 rfl (lv_room (Nat.le_of_ble_eq_true rfl)) dX10_turn_101 ⟨Nat.le_of_ble_eq_true rfl, Nat.le_of_ble_eq_true rfl⟩) hS (fun q _ h => hFc q h) hFc (fun u_40 t H1 locs ht hvm hw hB hz1 hk1 hS => ?_)
        obtain ⟨F_41, n_42⟩ := u_40
        obtain ⟨hP, hD, hI_43⟩ := hB
        have hI_43 : I10 ((kp + 1) + 1) F_41 n_42 := hI_43
        obtain ⟨b_44, b_45, b_46, b_47, b_48, b_49, b_50, b_51, b_52, b_53, b_54, b_55, i_56, i_57, i_58, i_59, i_60, i_61, i_62, j_63, j_64, j_65, j_66, j_67, j_68, j_69, j_70, j_71, j_72⟩ := id hI_43
        rw [ht] at hP
        have hD := hD.weaken (fun k q _ h => hFc _ h)
        generalize H1 = H at hP hS ⊢
        have hP : va_P (dC, dI) vwCl (w10 h0 X C (F_41 0) (F_41 1) (F_41 2) (F_41 3) (F_41 4) (F_41 5) (F_41 6) (F_41 7) (F_41 8) (F_41 10) (F_41 13) (F_41 14) (F_41 15) (F_41 16) (F_41 17) (F_41 18) (F_41 19) (F_41 20) (F_41 21) (F_41 22) (F_41 23) (F_41 24) (F_41 25) (F_41 26) (F_41 27) (F_41 28) (F_41 29) (F_41 30) (F_41 31) (F_41 32) (F_41 33) (F_41 34) (F_41 35) (F_41 36) (F_41 37) (F_41 38) (F_41 39) (F_41 40) (F_41 41) (F_41 42) (F_41 43) (F_41 49) (F_41 50) (F_41 51) (F_41 52) (F_41 53) (F_41 54) (F_41 55) (F_41 56) (F_41 57) (F_41 58) (F_41 59) (n_42 9) (n_42 11) (n_42 12) (n_42 44) (n_42 45) (n_42 46) (n_42 47) (n_42 48)) H := hP
        have hD : va_D A (w10 h0 X C (F_41 0) (F_41 1) (F_41 2) (F_41 3) (F_41 4) (F_41 5) (F_41 6) (F_41 7) (F_41 8) (F_41 10) (F_41 13) (F_41 14) (F_41 15) (F_41 16) (F_41 17) (F_41 18) (F_41 19) (F_41 20) (F_41 21) (F_41 22) (F_41 23) (F_41 24) (F_41 25) (F_41 26) (F_41 27) (F_41 28) (F_41 29) (F_41 30) (F_41 31) (F_41 32) (F_41 33) (F_41 34) (F_41 35) (F_41 36) (F_41 37) (F_41 38) (F_41 39) (F_41 40) (F_41 41) (F_41 42) (F_41 43) (F_41 49) (F_41 50) (F_41 51) (F_41 52) (F_41 53) (F_41 54) (F_41 55) (F_41 56) (F_41 57) (F_41 58) (F_41 59) (n_42 9) (n_42 11) (n_42 12) (n_42 44) (n_42 45) (n_42 46) (n_42 47) (n_42 48)) := hD
        have w_73 : ((n 11)).toInt ≤ (n_42 11).toInt := hw
        try simp only [upd_eq] at w_73
        exact W.vret hx hb hr (fun t ht hW => ⟨⟨(F_41, n_42), rfl, (by show (n 11).toInt ≤ ((n_42 11)).toInt; omega), by rw [ht]; exact hP, hD, I10_mono (k := ((kp + 1) + 1)) ⟨b_44, b_45, b_46, b_47, b_48, b_49, b_50, b_51, b_52, b_53, b_54, b_55, i_56, i_57, i_58, i_59, i_60, i_61, i_62, j_63, j_64, j_65, j_66, j_67, j_68, j_69, j_70, j_71, j_72⟩ (by omega)⟩, hS.F ht⟩) hS.2.2 dX10_turn_104
      · simp only [i_lt, i_le, i_eq, ti_0] at c_38
        refine lv_aload_n hx hb dX10_turn_84 rfl (lv_at hl 0 rfl) ?_
        refine va_get (D := (dC, dI)) (ci := 10) (v := .ref (X 24)) (C := RX10) (T := TX10) (N := 60) hx hb hg gb_10 hown hK hP 0 rfl rfl 24 (by decide) (hg _ gm_fieldLink_RX10_78_ErrandGuildModel_isBack_AZ_) (fun _ h9 => h9) rfl dX10_turn_85 ?_
        refine lv_iload_n hx hb dX10_turn_88 rfl (lv_at hl 1 rfl) ?_
        refine lv_iconst (v := 0) hx hb dX10_turn_89 (by decide) ?_
        refine va_zast (f := F 24) hx hb hK hP hD hS 22 21 rfl rfl (vp_in_iff.mpr ⟨by omega, by omega⟩) dX10_turn_90 (fun H locs hP hD hS => ?_)
        have hP : va_P (dC, dI) vwCl (w10 h0 X C (F 0) (F 1) (F 2) (F 3) (F 4) (F 5) (F 6) (F 7) (F 8) (F 10) (F 13) (F 14) (F 15) (F 16) (F 17) (F 18) (F 19) (F 20) (F 21) (F 22) (F 23) (upd (F 24) (Int32.toNatClampNeg v1) (vp_nar .boolean 0)) (F 25) (F 26) (F 27) (F 28) (F 29) (F 30) (F 31) (F 32) (F 33) (F 34) (F 35) (F 36) (F 37) (F 38) (F 39) (F 40) (F 41) (F 42) (F 43) (F 49) (F 50) (F 51) (F 52) (F 53) (F 54) (F 55) (F 56) (F 57) (F 58) (F 59) (n 9) (n 11) (n 12) (n 44) (n 45) (n 46) (n 47) z_31) H := hP
        have hD : va_D A (w10 h0 X C (F 0) (F 1) (F 2) (F 3) (F 4) (F 5) (F 6) (F 7) (F 8) (F 10) (F 13) (F 14) (F 15) (F 16) (F 17) (F 18) (F 19) (F 20) (F 21) (F 22) (F 23) (upd (F 24) (Int32.toNatClampNeg v1) (vp_nar .boolean 0)) (F 25) (F 26) (F 27) (F 28) (F 29) (F 30) (F 31) (F 32) (F 33) (F 34) (F 35) (F 36) (F 37) (F 38) (F 39) (F 40) (F 41) (F 42) (F 43) (F 49) (F 50) (F 51) (F 52) (F 53) (F 54) (F 55) (F 56) (F 57) (F 58) (F 59) (n 9) (n 11) (n 12) (n 44) (n 45) (n 46) (n 47) z_31) := hD
        have j_74 : J7 (upd (F 24) (Int32.toNatClampNeg v1) (vp_nar .boolean 0)) (F 20) := J7_ib j_27 (Int32.toNatClampNeg v1) (Or.inl (by rw [nb0]; decide))
        refine lv_aload_n hx hb dX10_turn_91 rfl (lv_at hl 0 rfl) ?_
        refine lv_iload_n hx hb dX10_turn_92 rfl (lv_at hl 1 rfl) ?_
        have hFc := free_all hD hS hA
        refine va_callv (va_runV (As := [.int v1]) (rest := []) ⟨hx, hb, hml, hown, hg⟩ (c_X10_gathers l dC dI (kp + 1) h0 X C (fun k => ([F 0, F 1, F 2, F 3, F 4, F 5, F 6, F 7, F 8, (fun _ => 0), F 10, (fun _ => 0), (fun _ => 0), F 13, F 14, F 15, F 16, F 17, F 18, F 19, F 20, F 21, F 22, F 23, upd (F 24) (Int32.toNatClampNeg v1) (vp_nar .boolean 0), F 25, F 26, F 27, F 28, F 29, F 30, F 31, F 32, F 33, F 34, F 35, F 36, F 37, F 38, F 39, F 40, F 41, F 42, F 43, (fun _ => 0), (fun _ => 0), (fun _ => 0), (fun _ => 0), (fun _ => 0), F 49, F 50, F 51, F 52, F 53, F 54, F 55, F 56, F 57, F 58, F 59] : List (Nat → Int32)).getD k (fun _ => 0)) (fun k => ([0, 0, 0, 0, 0, 0, 0, 0, 0, n 9, 0, n 11, n 12, 0, 0, 0, 0, 0, 0, 0, 0, 0, 0, 0, 0, 0, 0, 0, 0, 0, 0, 0, 0, 0, 0, 0, 0, 0, 0, 0, 0, 0, 0, 0, n 44, n 45, n 46, n 47, z_31, 0, 0, 0, 0, 0, 0, 0, 0, 0, 0, 0] : List Int32).getD k 0) v1 H.size ⟨b_1, b_2, b_3, b_4, b_5, b_6, b_7, b_8, b_9, b_10, b_11, b_12, i_13, i_14, i_33, i_34, i_17, i_18, i_32, j_20, j_21, j_22, j_23, j_24, j_25, j_26, j_74, j_28, j_29⟩ (by omega) (by show v1.toInt < ((n 11)).toInt; omega) (by show ((F 13) (Int32.toNatClampNeg v1)).toInt = 1; omega) (by show ((upd (F 24) (Int32.toNatClampNeg v1) (vp_nar .boolean 0)) (Int32.toNatClampNeg v1)).toInt = 0; rw [upd_eq, nb0]; decide) (by show ((F 20) (Int32.toNatClampNeg v1)).toInt ≤ 23; omega)) (cwV 1 hg (gw_V gm_methodLink_RX10_253_yX10_gathers gm_instanceMethod_yX10_gathers gm_selects_RX10_yX10_gathers_yX10_gathers gm_initialized_RX10 gm_code_yX10_gathers_cX10_gathers_5_none) rfl rfl rfl (by decide +kernel) ⟨Nat.le_of_ble_eq_true rfl, Nat.le_of_ble_eq_true rfl⟩) ⟨fun a U g mk q => by obtain ⟨q0, q1, qP, qK, qD, qN⟩ := q; exact ⟨q0, q1, qP, va_K.moved (u := U) (U := U.calling g mk a) (Vm.Alike.refl U.vm) qK, qD, nx_same (u := U) (U := U.calling g mk a) rfl qN⟩, va_recv hK hP (ci := 10) (q0 := 0) rfl rfl, fun U hU hW => ⟨rfl, by rw [hU], by rw [hU]; exact hP, va_K.moved hW.alike hK, hD.weaken (fun _ _ _ _ => trivial), nx_warm hW hN⟩⟩ rfl rfl hl.1 rfl (lv_room (Nat.le_of_ble_eq_true rfl)) dX10_turn_93 ⟨Nat.le_of_ble_eq_true rfl, Nat.le_of_ble_eq_true rfl⟩) hS (fun q _ h => hFc q h) hFc (fun u_76 t H1 locs ht hvm hw hB hz1 hk1 hS => ?_)
        obtain ⟨F_77, n_78⟩ := u_76
        obtain ⟨hP, hD, hI_79⟩ := hB
        have hI_79 : I10 (kp + 1) F_77 n_78 := hI_79
        obtain ⟨b_80, b_81, b_82, b_83, b_84, b_85, b_86, b_87, b_88, b_89, b_90, b_91, i_92, i_93, i_94, i_95, i_96, i_97, i_98, j_99, j_100, j_101, j_102, j_103, j_104, j_105, j_106, j_107, j_108⟩ := id hI_79
        rw [ht] at hP
        have hD := hD.weaken (fun k q _ h => hFc _ h)
        generalize H1 = H at hP hS ⊢
        have hP : va_P (dC, dI) vwCl (w10 h0 X C (F_77 0) (F_77 1) (F_77 2) (F_77 3) (F_77 4) (F_77 5) (F_77 6) (F_77 7) (F_77 8) (F_77 10) (F_77 13) (F_77 14) (F_77 15) (F_77 16) (F_77 17) (F_77 18) (F_77 19) (F_77 20) (F_77 21) (F_77 22) (F_77 23) (F_77 24) (F_77 25) (F_77 26) (F_77 27) (F_77 28) (F_77 29) (F_77 30) (F_77 31) (F_77 32) (F_77 33) (F_77 34) (F_77 35) (F_77 36) (F_77 37) (F_77 38) (F_77 39) (F_77 40) (F_77 41) (F_77 42) (F_77 43) (F_77 49) (F_77 50) (F_77 51) (F_77 52) (F_77 53) (F_77 54) (F_77 55) (F_77 56) (F_77 57) (F_77 58) (F_77 59) (n_78 9) (n_78 11) (n_78 12) (n_78 44) (n_78 45) (n_78 46) (n_78 47) (n_78 48)) H := hP
        have hD : va_D A (w10 h0 X C (F_77 0) (F_77 1) (F_77 2) (F_77 3) (F_77 4) (F_77 5) (F_77 6) (F_77 7) (F_77 8) (F_77 10) (F_77 13) (F_77 14) (F_77 15) (F_77 16) (F_77 17) (F_77 18) (F_77 19) (F_77 20) (F_77 21) (F_77 22) (F_77 23) (F_77 24) (F_77 25) (F_77 26) (F_77 27) (F_77 28) (F_77 29) (F_77 30) (F_77 31) (F_77 32) (F_77 33) (F_77 34) (F_77 35) (F_77 36) (F_77 37) (F_77 38) (F_77 39) (F_77 40) (F_77 41) (F_77 42) (F_77 43) (F_77 49) (F_77 50) (F_77 51) (F_77 52) (F_77 53) (F_77 54) (F_77 55) (F_77 56) (F_77 57) (F_77 58) (F_77 59) (n_78 9) (n_78 11) (n_78 12) (n_78 44) (n_78 45) (n_78 46) (n_78 47) (n_78 48)) := hD
        have w_109 : ((n 11)).toInt ≤ (n_78 11).toInt := hw
        try simp only [upd_eq] at w_109
        refine lv_goto (tgt := 104) hx hb dX10_turn_96 (by decide) ?_
        exact W.vret hx hb hr (fun t ht hW => ⟨⟨(F_77, n_78), rfl, (by show (n 11).toInt ≤ ((n_78 11)).toInt; omega), by rw [ht]; exact hP, hD, I10_mono (k := (kp + 1)) ⟨b_80, b_81, b_82, b_83, b_84, b_85, b_86, b_87, b_88, b_89, b_90, b_91, i_92, i_93, i_94, i_95, i_96, i_97, i_98, j_99, j_100, j_101, j_102, j_103, j_104, j_105, j_106, j_107, j_108⟩ (by omega)⟩, hS.F ht⟩) hS.2.2 dX10_turn_104
    · simp only [i_lt, i_le, i_eq, ti_0] at c_36
      refine lv_aload_n hx hb dX10_turn_50 rfl (lv_at hl 0 rfl) ?_
      refine va_get (D := (dC, dI)) (ci := 10) (v := .ref (X 25)) (C := RX10) (T := TX10) (N := 60) hx hb hg gb_10 hown hK hP 0 rfl rfl 25 (by decide) (hg _ gm_fieldLink_RX10_81_ErrandGuildModel_isTold_AZ_) (fun _ h9 => h9) rfl dX10_turn_51 ?_
      refine lv_iload_n hx hb dX10_turn_54 rfl (lv_at hl 1 rfl) ?_
      refine lv_iconst (v := 0) hx hb dX10_turn_55 (by decide) ?_
      refine va_zast (f := F 25) hx hb hK hP hD hS 23 22 rfl rfl (vp_in_iff.mpr ⟨by omega, by omega⟩) dX10_turn_56 (fun H locs hP hD hS => ?_)
      have hP : va_P (dC, dI) vwCl (w10 h0 X C (F 0) (F 1) (F 2) (F 3) (F 4) (F 5) (F 6) (F 7) (F 8) (F 10) (F 13) (F 14) (F 15) (F 16) (F 17) (F 18) (F 19) (F 20) (F 21) (F 22) (F 23) (F 24) (upd (F 25) (Int32.toNatClampNeg v1) (vp_nar .boolean 0)) (F 26) (F 27) (F 28) (F 29) (F 30) (F 31) (F 32) (F 33) (F 34) (F 35) (F 36) (F 37) (F 38) (F 39) (F 40) (F 41) (F 42) (F 43) (F 49) (F 50) (F 51) (F 52) (F 53) (F 54) (F 55) (F 56) (F 57) (F 58) (F 59) (n 9) (n 11) (n 12) (n 44) (n 45) (n 46) (n 47) z_31) H := hP
      have hD : va_D A (w10 h0 X C (F 0) (F 1) (F 2) (F 3) (F 4) (F 5) (F 6) (F 7) (F 8) (F 10) (F 13) (F 14) (F 15) (F 16) (F 17) (F 18) (F 19) (F 20) (F 21) (F 22) (F 23) (F 24) (upd (F 25) (Int32.toNatClampNeg v1) (vp_nar .boolean 0)) (F 26) (F 27) (F 28) (F 29) (F 30) (F 31) (F 32) (F 33) (F 34) (F 35) (F 36) (F 37) (F 38) (F 39) (F 40) (F 41) (F 42) (F 43) (F 49) (F 50) (F 51) (F 52) (F 53) (F 54) (F 55) (F 56) (F 57) (F 58) (F 59) (n 9) (n 11) (n 12) (n 44) (n 45) (n 46) (n 47) z_31) := hD
      refine lv_aload_n hx hb dX10_turn_57 rfl (lv_at hl 0 rfl) ?_
      refine va_get (D := (dC, dI)) (ci := 10) (v := .ref (X 24)) (C := RX10) (T := TX10) (N := 60) hx hb hg gb_10 hown hK hP 0 rfl rfl 24 (by decide) (hg _ gm_fieldLink_RX10_78_ErrandGuildModel_isBack_AZ_) (fun _ h9 => h9) rfl dX10_turn_58 ?_
      refine lv_iload_n hx hb dX10_turn_61 rfl (lv_at hl 1 rfl) ?_
      refine lv_iconst (v := 0) hx hb dX10_turn_62 (by decide) ?_
      refine va_zast (f := F 24) hx hb hK hP hD hS 22 21 rfl rfl (vp_in_iff.mpr ⟨by omega, by omega⟩) dX10_turn_63 (fun H locs hP hD hS => ?_)
      have hP : va_P (dC, dI) vwCl (w10 h0 X C (F 0) (F 1) (F 2) (F 3) (F 4) (F 5) (F 6) (F 7) (F 8) (F 10) (F 13) (F 14) (F 15) (F 16) (F 17) (F 18) (F 19) (F 20) (F 21) (F 22) (F 23) (upd (F 24) (Int32.toNatClampNeg v1) (vp_nar .boolean 0)) (upd (F 25) (Int32.toNatClampNeg v1) (vp_nar .boolean 0)) (F 26) (F 27) (F 28) (F 29) (F 30) (F 31) (F 32) (F 33) (F 34) (F 35) (F 36) (F 37) (F 38) (F 39) (F 40) (F 41) (F 42) (F 43) (F 49) (F 50) (F 51) (F 52) (F 53) (F 54) (F 55) (F 56) (F 57) (F 58) (F 59) (n 9) (n 11) (n 12) (n 44) (n 45) (n 46) (n 47) z_31) H := hP
      have hD : va_D A (w10 h0 X C (F 0) (F 1) (F 2) (F 3) (F 4) (F 5) (F 6) (F 7) (F 8) (F 10) (F 13) (F 14) (F 15) (F 16) (F 17) (F 18) (F 19) (F 20) (F 21) (F 22) (F 23) (upd (F 24) (Int32.toNatClampNeg v1) (vp_nar .boolean 0)) (upd (F 25) (Int32.toNatClampNeg v1) (vp_nar .boolean 0)) (F 26) (F 27) (F 28) (F 29) (F 30) (F 31) (F 32) (F 33) (F 34) (F 35) (F 36) (F 37) (F 38) (F 39) (F 40) (F 41) (F 42) (F 43) (F 49) (F 50) (F 51) (F 52) (F 53) (F 54) (F 55) (F 56) (F 57) (F 58) (F 59) (n 9) (n 11) (n 12) (n 44) (n 45) (n 46) (n 47) z_31) := hD
      have j_110 : J7 (upd (F 24) (Int32.toNatClampNeg v1) (vp_nar .boolean 0)) (F 20) := J7_ib j_27 (Int32.toNatClampNeg v1) (Or.inl (by rw [nb0]; decide))
      refine lv_aload_n hx hb dX10_turn_64 rfl (lv_at hl 0 rfl) ?_
      refine lv_iload_n hx hb dX10_turn_65 rfl (lv_at hl 1 rfl) ?_
      refine lv_iconst (v := 4) hx hb dX10_turn_66 (by decide) ?_
      refine lv_iconst (v := -1) hx hb dX10_turn_67 (by decide) ?_
      refine lv_iconst (v := 0) hx hb dX10_turn_68 (by decide) ?_
      have hFc := free_all hD hS hA
      refine va_callv (va_runV (As := [.int v1, .int 4, .int (-1), .int 0]) (rest := []) ⟨hx, hb, hml, hown, hg⟩ (c_X10_fails l dC dI (kp + 1) h0 X C (fun k => ([F 0, F 1, F 2, F 3, F 4, F 5, F 6, F 7, F 8, (fun _ => 0), F 10, (fun _ => 0), (fun _ => 0), F 13, F 14, F 15, F 16, F 17, F 18, F 19, F 20, F 21, F 22, F 23, upd (F 24) (Int32.toNatClampNeg v1) (vp_nar .boolean 0), upd (F 25) (Int32.toNatClampNeg v1) (vp_nar .boolean 0), F 26, F 27, F 28, F 29, F 30, F 31, F 32, F 33, F 34, F 35, F 36, F 37, F 38, F 39, F 40, F 41, F 42, F 43, (fun _ => 0), (fun _ => 0), (fun _ => 0), (fun _ => 0), (fun _ => 0), F 49, F 50, F 51, F 52, F 53, F 54, F 55, F 56, F 57, F 58, F 59] : List (Nat → Int32)).getD k (fun _ => 0)) (fun k => ([0, 0, 0, 0, 0, 0, 0, 0, 0, n 9, 0, n 11, n 12, 0, 0, 0, 0, 0, 0, 0, 0, 0, 0, 0, 0, 0, 0, 0, 0, 0, 0, 0, 0, 0, 0, 0, 0, 0, 0, 0, 0, 0, 0, 0, n 44, n 45, n 46, n 47, z_31, 0, 0, 0, 0, 0, 0, 0, 0, 0, 0, 0] : List Int32).getD k 0) v1 4 (-1) 0 H.size ⟨b_1, b_2, b_3, b_4, b_5, b_6, b_7, b_8, b_9, b_10, b_11, b_12, i_13, i_14, i_33, i_34, i_17, i_18, i_32, j_20, j_21, j_22, j_23, j_24, j_25, j_26, j_110, j_28, j_29⟩ (by have t_0 := ti_4; have t_1 := ti_m1; have t_2 := ti_0; omega) (by have t_0 := ti_4; have t_1 := ti_m1; have t_2 := ti_0; show v1.toInt < ((n 11)).toInt; omega) (by have t_0 := ti_4; have t_1 := ti_m1; have t_2 := ti_0; show ((F 13) (Int32.toNatClampNeg v1)).toInt = 1; omega) (by show ((upd (F 24) (Int32.toNatClampNeg v1) (vp_nar .boolean 0)) (Int32.toNatClampNeg v1)).toInt = 0; rw [upd_eq, nb0]; decide) (by have t_0 := ti_4; have t_1 := ti_m1; have t_2 := ti_0; omega)) (cwV 4 hg (gw_V gm_methodLink_RX10_225_yX10_fails gm_instanceMethod_yX10_fails gm_selects_RX10_yX10_fails_yX10_fails gm_initialized_RX10 gm_code_yX10_fails_cX10_fails_6_none) rfl rfl rfl (by decide +kernel) ⟨Nat.le_of_ble_eq_true rfl, Nat.le_of_ble_eq_true rfl⟩) ⟨fun a U g mk q => by obtain ⟨q0, q1, qP, qK, qD, qN⟩ := q; exact ⟨q0, q1, qP, va_K.moved (u := U) (U := U.calling g mk a) (Vm.Alike.refl U.vm) qK, qD, nx_same (u := U) (U := U.calling g mk a) rfl qN⟩, va_recv hK hP (ci := 10) (q0 := 0) rfl rfl, fun U hU hW => ⟨rfl, by rw [hU], by rw [hU]; exact hP, va_K.moved hW.alike hK, hD.weaken (fun _ _ _ _ => trivial), nx_warm hW hN⟩⟩ rfl rfl hl.1 rfl (lv_room (Nat.le_of_ble_eq_true rfl)) dX10_turn_69 ⟨Nat.le_of_ble_eq_true rfl, Nat.le_of_ble_eq_true rfl⟩) hS (fun q _ h => hFc q h) hFc (fun u_112 t H1 locs ht hvm hw hB hz1 hk1 hS => ?_)
      obtain ⟨F_113, n_114⟩ := u_112
      obtain ⟨hP, hD, hI_115⟩ := hB
      have hI_115 : I10 (kp + 1) F_113 n_114 := hI_115
      obtain ⟨b_116, b_117, b_118, b_119, b_120, b_121, b_122, b_123, b_124, b_125, b_126, b_127, i_128, i_129, i_130, i_131, i_132, i_133, i_134, j_135, j_136, j_137, j_138, j_139, j_140, j_141, j_142, j_143, j_144⟩ := id hI_115
      rw [ht] at hP
      have hD := hD.weaken (fun k q _ h => hFc _ h)
      generalize H1 = H at hP hS ⊢
      have hP : va_P (dC, dI) vwCl (w10 h0 X C (F_113 0) (F_113 1) (F_113 2) (F_113 3) (F_113 4) (F_113 5) (F_113 6) (F_113 7) (F_113 8) (F_113 10) (F_113 13) (F_113 14) (F_113 15) (F_113 16) (F_113 17) (F_113 18) (F_113 19) (F_113 20) (F_113 21) (F_113 22) (F_113 23) (F_113 24) (F_113 25) (F_113 26) (F_113 27) (F_113 28) (F_113 29) (F_113 30) (F_113 31) (F_113 32) (F_113 33) (F_113 34) (F_113 35) (F_113 36) (F_113 37) (F_113 38) (F_113 39) (F_113 40) (F_113 41) (F_113 42) (F_113 43) (F_113 49) (F_113 50) (F_113 51) (F_113 52) (F_113 53) (F_113 54) (F_113 55) (F_113 56) (F_113 57) (F_113 58) (F_113 59) (n_114 9) (n_114 11) (n_114 12) (n_114 44) (n_114 45) (n_114 46) (n_114 47) (n_114 48)) H := hP
      have hD : va_D A (w10 h0 X C (F_113 0) (F_113 1) (F_113 2) (F_113 3) (F_113 4) (F_113 5) (F_113 6) (F_113 7) (F_113 8) (F_113 10) (F_113 13) (F_113 14) (F_113 15) (F_113 16) (F_113 17) (F_113 18) (F_113 19) (F_113 20) (F_113 21) (F_113 22) (F_113 23) (F_113 24) (F_113 25) (F_113 26) (F_113 27) (F_113 28) (F_113 29) (F_113 30) (F_113 31) (F_113 32) (F_113 33) (F_113 34) (F_113 35) (F_113 36) (F_113 37) (F_113 38) (F_113 39) (F_113 40) (F_113 41) (F_113 42) (F_113 43) (F_113 49) (F_113 50) (F_113 51) (F_113 52) (F_113 53) (F_113 54) (F_113 55) (F_113 56) (F_113 57) (F_113 58) (F_113 59) (n_114 9) (n_114 11) (n_114 12) (n_114 44) (n_114 45) (n_114 46) (n_114 47) (n_114 48)) := hD
      have w_145 : ((n 11)).toInt ≤ (n_114 11).toInt := hw
      try simp only [upd_eq] at w_145
      refine lv_goto (tgt := 104) hx hb dX10_turn_72 (by decide) ?_
      exact W.vret hx hb hr (fun t ht hW => ⟨⟨(F_113, n_114), rfl, (by show (n 11).toInt ≤ ((n_114 11)).toInt; omega), by rw [ht]; exact hP, hD, I10_mono (k := (kp + 1)) ⟨b_116, b_117, b_118, b_119, b_120, b_121, b_122, b_123, b_124, b_125, b_126, b_127, i_128, i_129, i_130, i_131, i_132, i_133, i_134, j_135, j_136, j_137, j_138, j_139, j_140, j_141, j_142, j_143, j_144⟩ (by omega)⟩, hS.F ht⟩) hS.2.2 dX10_turn_104
  · simp only [i_lt, i_le, i_eq, ti_2000] at c_30
    refine lv_aload_n hx hb dX10_turn_10 rfl (lv_at hl 0 rfl) ?_
    refine va_get (D := (dC, dI)) (ci := 10) (v := .ref (X 59)) (C := RX10) (T := TX10) (N := 60) hx hb hg gb_10 hown hK hP 0 rfl rfl 59 (by decide) (hg _ gm_fieldLink_RX10_169_ErrandGuildModel_order_AI_) (fun _ h9 => h9) rfl dX10_turn_11 ?_
    refine lv_aload_n hx hb dX10_turn_14 rfl (lv_at hl 0 rfl) ?_
    refine va_get (D := (dC, dI)) (ci := 10) (v := .int (n 48)) (C := RX10) (T := TX10) (N := 60) hx hb hg gb_10 hown hK hP 0 rfl rfl 48 (by decide) (hg _ gm_fieldLink_RX10_198_ErrandGuildModel_orderMany_I_) (fun _ h9 => h9) rfl dX10_turn_15 ?_
    refine lv_sipush (v := 256) hx hb dX10_turn_18 (by decide) ?_
    refine lv_iload_n hx hb dX10_turn_21 rfl (lv_at hl 1 rfl) ?_
    refine lv_imul hx hb dX10_turn_22 ?_
    refine lv_topi (fun z_146 ez_146 => ?_)
    have tz_146 : z_146.toInt = 256 * v1.toInt := ar_mul ti_256 rfl ez_146 (by omega)
    refine lv_aload_n hx hb dX10_turn_23 rfl (lv_at hl 0 rfl) ?_
    refine va_get (D := (dC, dI)) (ci := 10) (v := .ref (X 18)) (C := RX10) (T := TX10) (N := 60) hx hb hg gb_10 hown hK hP 0 rfl rfl 18 (by decide) (hg _ gm_fieldLink_RX10_60_ErrandGuildModel_thread_AI_) (fun _ h9 => h9) rfl dX10_turn_24 ?_
    refine lv_iload_n hx hb dX10_turn_27 rfl (lv_at hl 1 rfl) ?_
    refine va_iald (f := F 18) hx hb hK hP 16 15 rfl rfl (vp_in_iff.mpr ⟨by omega, by omega⟩) dX10_turn_28 ?_
    refine lv_topi (fun z_147 ez_147 => ?_)
    have qz_147 := congrArg Int32.toInt ez_147
    have bz_147 := bd_at b_7 ez_147
    refine lv_iadd hx hb dX10_turn_29 ?_
    refine lv_topi (fun z_148 ez_148 => ?_)
    have tz_148 : z_148.toInt = z_146.toInt + z_147.toInt := ar_add rfl rfl ez_148 (by omega)
    refine va_iast (f := F 59) hx hb hK hP hD hS 52 51 rfl rfl (vp_in_iff.mpr ⟨by omega, by omega⟩) dX10_turn_30 (fun H locs hP hD hS => ?_)
    have hP : va_P (dC, dI) vwCl (w10 h0 X C (F 0) (F 1) (F 2) (F 3) (F 4) (F 5) (F 6) (F 7) (F 8) (F 10) (F 13) (F 14) (F 15) (F 16) (F 17) (F 18) (F 19) (F 20) (F 21) (F 22) (F 23) (F 24) (F 25) (F 26) (F 27) (F 28) (F 29) (F 30) (F 31) (F 32) (F 33) (F 34) (F 35) (F 36) (F 37) (F 38) (F 39) (F 40) (F 41) (F 42) (F 43) (F 49) (F 50) (F 51) (F 52) (F 53) (F 54) (F 55) (F 56) (F 57) (F 58) (upd (F 59) (Int32.toNatClampNeg (n 48)) z_148) (n 9) (n 11) (n 12) (n 44) (n 45) (n 46) (n 47) (n 48)) H := hP
    have hD : va_D A (w10 h0 X C (F 0) (F 1) (F 2) (F 3) (F 4) (F 5) (F 6) (F 7) (F 8) (F 10) (F 13) (F 14) (F 15) (F 16) (F 17) (F 18) (F 19) (F 20) (F 21) (F 22) (F 23) (F 24) (F 25) (F 26) (F 27) (F 28) (F 29) (F 30) (F 31) (F 32) (F 33) (F 34) (F 35) (F 36) (F 37) (F 38) (F 39) (F 40) (F 41) (F 42) (F 43) (F 49) (F 50) (F 51) (F 52) (F 53) (F 54) (F 55) (F 56) (F 57) (F 58) (upd (F 59) (Int32.toNatClampNeg (n 48)) z_148) (n 9) (n 11) (n 12) (n 44) (n 45) (n 46) (n 47) (n 48)) := hD
    refine lv_aload_n hx hb dX10_turn_31 rfl (lv_at hl 0 rfl) ?_
    refine lv_aload_n hx hb dX10_turn_32 rfl (lv_at hl 0 rfl) ?_
    refine va_get (D := (dC, dI)) (ci := 10) (v := .int (n 48)) (C := RX10) (T := TX10) (N := 60) hx hb hg gb_10 hown hK hP 0 rfl rfl 48 (by decide) (hg _ gm_fieldLink_RX10_198_ErrandGuildModel_orderMany_I_) (fun _ h9 => h9) rfl dX10_turn_33 ?_
    refine lv_iconst (v := 1) hx hb dX10_turn_36 (by decide) ?_
    refine lv_iadd hx hb dX10_turn_37 ?_
    refine lv_topi (fun z_149 ez_149 => ?_)
    have tz_149 : z_149.toInt = (n 48).toInt + 1 := ar_add rfl ti_1 ez_149 (by omega)
    refine va_put (D := (dC, dI)) (ci := 10) (v := .int z_149) (ty := .int) (C := RX10) (T := TX10) (N := 60) hx hb hg gb_10 tyX10 tyX10_ok nmX10 hown hK hP hD hS 0 rfl rfl 48 (by decide) (hg _ gm_fieldLink_RX10_198_ErrandGuildModel_orderMany_I_) (fun _ h9 => h9) rfl (by decide +kernel) rfl rfl (Nat.le_of_ble_eq_true rfl) dX10_turn_38 (fun H locs hP hD hS => ?_)
    have hP : va_P (dC, dI) vwCl (w10 h0 X C (F 0) (F 1) (F 2) (F 3) (F 4) (F 5) (F 6) (F 7) (F 8) (F 10) (F 13) (F 14) (F 15) (F 16) (F 17) (F 18) (F 19) (F 20) (F 21) (F 22) (F 23) (F 24) (F 25) (F 26) (F 27) (F 28) (F 29) (F 30) (F 31) (F 32) (F 33) (F 34) (F 35) (F 36) (F 37) (F 38) (F 39) (F 40) (F 41) (F 42) (F 43) (F 49) (F 50) (F 51) (F 52) (F 53) (F 54) (F 55) (F 56) (F 57) (F 58) (upd (F 59) (Int32.toNatClampNeg (n 48)) z_148) (n 9) (n 11) (n 12) (n 44) (n 45) (n 46) (n 47) z_149) H := hP
    have hD : va_D A (w10 h0 X C (F 0) (F 1) (F 2) (F 3) (F 4) (F 5) (F 6) (F 7) (F 8) (F 10) (F 13) (F 14) (F 15) (F 16) (F 17) (F 18) (F 19) (F 20) (F 21) (F 22) (F 23) (F 24) (F 25) (F 26) (F 27) (F 28) (F 29) (F 30) (F 31) (F 32) (F 33) (F 34) (F 35) (F 36) (F 37) (F 38) (F 39) (F 40) (F 41) (F 42) (F 43) (F 49) (F 50) (F 51) (F 52) (F 53) (F 54) (F 55) (F 56) (F 57) (F 58) (upd (F 59) (Int32.toNatClampNeg (n 48)) z_148) (n 9) (n 11) (n 12) (n 44) (n 45) (n 46) (n 47) z_149) := hD
    have i_151 : 0 ≤ (n 44).toInt ∧ (n 44).toInt ≤ (kp + 1) := by omega
    have i_152 : 0 ≤ (n 45).toInt ∧ (n 45).toInt ≤ (kp + 1) := by omega
    have i_150 : 0 ≤ z_149.toInt ∧ z_149.toInt ≤ (kp + 1) := by omega
    refine lv_aload_n hx hb dX10_turn_41 rfl (lv_at hl 0 rfl) ?_
    refine va_get (D := (dC, dI)) (ci := 10) (v := .ref (X 25)) (C := RX10) (T := TX10) (N := 60) hx hb hg gb_10 hown hK hP 0 rfl rfl 25 (by decide) (hg _ gm_fieldLink_RX10_81_ErrandGuildModel_isTold_AZ_) (fun _ h9 => h9) rfl dX10_turn_42 ?_
    refine lv_iload_n hx hb dX10_turn_45 rfl (lv_at hl 1 rfl) ?_
    refine va_zald (f := F 25) hx hb hK hP 23 22 rfl rfl (vp_in_iff.mpr ⟨by omega, by omega⟩) dX10_turn_46 ?_
    refine lv_topi (fun z_153 ez_153 => ?_)
    have qz_153 := congrArg Int32.toInt ez_153
    refine lv_if_eq (tgt := 75) hx hb dX10_turn_47 (by decide) (fun c_154 => ?_) (fun c_154 => ?_)
    · simp only [i_lt, i_le, i_eq, ti_0] at c_154
      refine lv_aload_n hx hb dX10_turn_75 rfl (lv_at hl 0 rfl) ?_
      refine va_get (D := (dC, dI)) (ci := 10) (v := .ref (X 24)) (C := RX10) (T := TX10) (N := 60) hx hb hg gb_10 hown hK hP 0 rfl rfl 24 (by decide) (hg _ gm_fieldLink_RX10_78_ErrandGuildModel_isBack_AZ_) (fun _ h9 => h9) rfl dX10_turn_76 ?_
      refine lv_iload_n hx hb dX10_turn_79 rfl (lv_at hl 1 rfl) ?_
      refine va_zald (f := F 24) hx hb hK hP 22 21 rfl rfl (vp_in_iff.mpr ⟨by omega, by omega⟩) dX10_turn_80 ?_
      refine lv_topi (fun z_155 ez_155 => ?_)
      have qz_155 := congrArg Int32.toInt ez_155
      have j7i := j_27 (Int32.toNatClampNeg v1)
      refine lv_if_eq (tgt := 99) hx hb dX10_turn_81 (by decide) (fun c_156 => ?_) (fun c_156 => ?_)
      · simp only [i_lt, i_le, i_eq, ti_0] at c_156
        refine lv_aload_n hx hb dX10_turn_99 rfl (lv_at hl 0 rfl) ?_
        refine lv_iload_n hx hb dX10_turn_100 rfl (lv_at hl 1 rfl) ?_
        have hFc := free_all hD hS hA
        refine va_callv (va_runV (As := [.int v1]) (rest := []) ⟨hx, hb, hml, hown, hg⟩ (c_X10_does l dC dI (kp + 1) h0 X C (fun k => ([F 0, F 1, F 2, F 3, F 4, F 5, F 6, F 7, F 8, (fun _ => 0), F 10, (fun _ => 0), (fun _ => 0), F 13, F 14, F 15, F 16, F 17, F 18, F 19, F 20, F 21, F 22, F 23, F 24, F 25, F 26, F 27, F 28, F 29, F 30, F 31, F 32, F 33, F 34, F 35, F 36, F 37, F 38, F 39, F 40, F 41, F 42, F 43, (fun _ => 0), (fun _ => 0), (fun _ => 0), (fun _ => 0), (fun _ => 0), F 49, F 50, F 51, F 52, F 53, F 54, F 55, F 56, F 57, F 58, upd (F 59) (Int32.toNatClampNeg (n 48)) z_148] : List (Nat → Int32)).getD k (fun _ => 0)) (fun k => ([0, 0, 0, 0, 0, 0, 0, 0, 0, n 9, 0, n 11, n 12, 0, 0, 0, 0, 0, 0, 0, 0, 0, 0, 0, 0, 0, 0, 0, 0, 0, 0, 0, 0, 0, 0, 0, 0, 0, 0, 0, 0, 0, 0, 0, n 44, n 45, n 46, n 47, z_149, 0, 0, 0, 0, 0, 0, 0, 0, 0, 0, 0] : List Int32).getD k 0) v1 H.size ⟨b_1, b_2, b_3, b_4, b_5, b_6, b_7, b_8, b_9, b_10, b_11, b_12, i_13, i_14, i_151, i_152, i_17, i_18, i_150, j_20, j_21, j_22, j_23, j_24, j_25, j_26, j_27, j_28, j_29⟩ (by omega) (by show v1.toInt < ((n 11)).toInt; omega) (by show ((F 13) (Int32.toNatClampNeg v1)).toInt = 1; omega) (by show ((F 24) (Int32.toNatClampNeg v1)).toInt = 0; omega) (by omega)) (cwV 1 hg (gw_V gm_methodLink_RX10_259_yX10_does gm_instanceMethod_yX10_does gm_selects_RX10_yX10_does_yX10_does gm_initialized_RX10 gm_code_yX10_does_cX10_does_7_none) rfl rfl rfl (by decide +kernel) ⟨Nat.le_of_ble_eq_true rfl, Nat.le_of_ble_eq_true rfl⟩) ⟨fun a U g mk q => by obtain ⟨q0, q1, qP, qK, qD, qN⟩ := q; exact ⟨q0, q1, qP, va_K.moved (u := U) (U := U.calling g mk a) (Vm.Alike.refl U.vm) qK, qD, nx_same (u := U) (U := U.calling g mk a) rfl qN⟩, va_recv hK hP (ci := 10) (q0 := 0) rfl rfl, fun U hU hW => ⟨rfl, by rw [hU], by rw [hU]; exact hP, va_K.moved hW.alike hK, hD.weaken (fun _ _ _ _ => trivial), nx_warm hW hN⟩⟩ rfl rfl hl.1 rfl (lv_room (Nat.le_of_ble_eq_true rfl)) dX10_turn_101 ⟨Nat.le_of_ble_eq_true rfl, Nat.le_of_ble_eq_true rfl⟩) hS (fun q _ h => hFc q h) hFc (fun u_158 t H1 locs ht hvm hw hB hz1 hk1 hS => ?_)
        obtain ⟨F_159, n_160⟩ := u_158
        obtain ⟨hP, hD, hI_161⟩ := hB
        have hI_161 : I10 ((kp + 1) + 1) F_159 n_160 := hI_161
        obtain ⟨b_162, b_163, b_164, b_165, b_166, b_167, b_168, b_169, b_170, b_171, b_172, b_173, i_174, i_175, i_176, i_177, i_178, i_179, i_180, j_181, j_182, j_183, j_184, j_185, j_186, j_187, j_188, j_189, j_190⟩ := id hI_161
        rw [ht] at hP
        have hD := hD.weaken (fun k q _ h => hFc _ h)
        generalize H1 = H at hP hS ⊢
        have hP : va_P (dC, dI) vwCl (w10 h0 X C (F_159 0) (F_159 1) (F_159 2) (F_159 3) (F_159 4) (F_159 5) (F_159 6) (F_159 7) (F_159 8) (F_159 10) (F_159 13) (F_159 14) (F_159 15) (F_159 16) (F_159 17) (F_159 18) (F_159 19) (F_159 20) (F_159 21) (F_159 22) (F_159 23) (F_159 24) (F_159 25) (F_159 26) (F_159 27) (F_159 28) (F_159 29) (F_159 30) (F_159 31) (F_159 32) (F_159 33) (F_159 34) (F_159 35) (F_159 36) (F_159 37) (F_159 38) (F_159 39) (F_159 40) (F_159 41) (F_159 42) (F_159 43) (F_159 49) (F_159 50) (F_159 51) (F_159 52) (F_159 53) (F_159 54) (F_159 55) (F_159 56) (F_159 57) (F_159 58) (F_159 59) (n_160 9) (n_160 11) (n_160 12) (n_160 44) (n_160 45) (n_160 46) (n_160 47) (n_160 48)) H := hP
        have hD : va_D A (w10 h0 X C (F_159 0) (F_159 1) (F_159 2) (F_159 3) (F_159 4) (F_159 5) (F_159 6) (F_159 7) (F_159 8) (F_159 10) (F_159 13) (F_159 14) (F_159 15) (F_159 16) (F_159 17) (F_159 18) (F_159 19) (F_159 20) (F_159 21) (F_159 22) (F_159 23) (F_159 24) (F_159 25) (F_159 26) (F_159 27) (F_159 28) (F_159 29) (F_159 30) (F_159 31) (F_159 32) (F_159 33) (F_159 34) (F_159 35) (F_159 36) (F_159 37) (F_159 38) (F_159 39) (F_159 40) (F_159 41) (F_159 42) (F_159 43) (F_159 49) (F_159 50) (F_159 51) (F_159 52) (F_159 53) (F_159 54) (F_159 55) (F_159 56) (F_159 57) (F_159 58) (F_159 59) (n_160 9) (n_160 11) (n_160 12) (n_160 44) (n_160 45) (n_160 46) (n_160 47) (n_160 48)) := hD
        have w_191 : ((n 11)).toInt ≤ (n_160 11).toInt := hw
        try simp only [upd_eq] at w_191
        exact W.vret hx hb hr (fun t ht hW => ⟨⟨(F_159, n_160), rfl, (by show (n 11).toInt ≤ ((n_160 11)).toInt; omega), by rw [ht]; exact hP, hD, I10_mono (k := ((kp + 1) + 1)) ⟨b_162, b_163, b_164, b_165, b_166, b_167, b_168, b_169, b_170, b_171, b_172, b_173, i_174, i_175, i_176, i_177, i_178, i_179, i_180, j_181, j_182, j_183, j_184, j_185, j_186, j_187, j_188, j_189, j_190⟩ (by omega)⟩, hS.F ht⟩) hS.2.2 dX10_turn_104
      · simp only [i_lt, i_le, i_eq, ti_0] at c_156
        refine lv_aload_n hx hb dX10_turn_84 rfl (lv_at hl 0 rfl) ?_
        refine va_get (D := (dC, dI)) (ci := 10) (v := .ref (X 24)) (C := RX10) (T := TX10) (N := 60) hx hb hg gb_10 hown hK hP 0 rfl rfl 24 (by decide) (hg _ gm_fieldLink_RX10_78_ErrandGuildModel_isBack_AZ_) (fun _ h9 => h9) rfl dX10_turn_85 ?_
        refine lv_iload_n hx hb dX10_turn_88 rfl (lv_at hl 1 rfl) ?_
        refine lv_iconst (v := 0) hx hb dX10_turn_89 (by decide) ?_
        refine va_zast (f := F 24) hx hb hK hP hD hS 22 21 rfl rfl (vp_in_iff.mpr ⟨by omega, by omega⟩) dX10_turn_90 (fun H locs hP hD hS => ?_)
        have hP : va_P (dC, dI) vwCl (w10 h0 X C (F 0) (F 1) (F 2) (F 3) (F 4) (F 5) (F 6) (F 7) (F 8) (F 10) (F 13) (F 14) (F 15) (F 16) (F 17) (F 18) (F 19) (F 20) (F 21) (F 22) (F 23) (upd (F 24) (Int32.toNatClampNeg v1) (vp_nar .boolean 0)) (F 25) (F 26) (F 27) (F 28) (F 29) (F 30) (F 31) (F 32) (F 33) (F 34) (F 35) (F 36) (F 37) (F 38) (F 39) (F 40) (F 41) (F 42) (F 43) (F 49) (F 50) (F 51) (F 52) (F 53) (F 54) (F 55) (F 56) (F 57) (F 58) (upd (F 59) (Int32.toNatClampNeg (n 48)) z_148) (n 9) (n 11) (n 12) (n 44) (n 45) (n 46) (n 47) z_149) H := hP
        have hD : va_D A (w10 h0 X C (F 0) (F 1) (F 2) (F 3) (F 4) (F 5) (F 6) (F 7) (F 8) (F 10) (F 13) (F 14) (F 15) (F 16) (F 17) (F 18) (F 19) (F 20) (F 21) (F 22) (F 23) (upd (F 24) (Int32.toNatClampNeg v1) (vp_nar .boolean 0)) (F 25) (F 26) (F 27) (F 28) (F 29) (F 30) (F 31) (F 32) (F 33) (F 34) (F 35) (F 36) (F 37) (F 38) (F 39) (F 40) (F 41) (F 42) (F 43) (F 49) (F 50) (F 51) (F 52) (F 53) (F 54) (F 55) (F 56) (F 57) (F 58) (upd (F 59) (Int32.toNatClampNeg (n 48)) z_148) (n 9) (n 11) (n 12) (n 44) (n 45) (n 46) (n 47) z_149) := hD
        have j_192 : J7 (upd (F 24) (Int32.toNatClampNeg v1) (vp_nar .boolean 0)) (F 20) := J7_ib j_27 (Int32.toNatClampNeg v1) (Or.inl (by rw [nb0]; decide))
        refine lv_aload_n hx hb dX10_turn_91 rfl (lv_at hl 0 rfl) ?_
        refine lv_iload_n hx hb dX10_turn_92 rfl (lv_at hl 1 rfl) ?_
        have hFc := free_all hD hS hA
        refine va_callv (va_runV (As := [.int v1]) (rest := []) ⟨hx, hb, hml, hown, hg⟩ (c_X10_gathers l dC dI (kp + 1) h0 X C (fun k => ([F 0, F 1, F 2, F 3, F 4, F 5, F 6, F 7, F 8, (fun _ => 0), F 10, (fun _ => 0), (fun _ => 0), F 13, F 14, F 15, F 16, F 17, F 18, F 19, F 20, F 21, F 22, F 23, upd (F 24) (Int32.toNatClampNeg v1) (vp_nar .boolean 0), F 25, F 26, F 27, F 28, F 29, F 30, F 31, F 32, F 33, F 34, F 35, F 36, F 37, F 38, F 39, F 40, F 41, F 42, F 43, (fun _ => 0), (fun _ => 0), (fun _ => 0), (fun _ => 0), (fun _ => 0), F 49, F 50, F 51, F 52, F 53, F 54, F 55, F 56, F 57, F 58, upd (F 59) (Int32.toNatClampNeg (n 48)) z_148] : List (Nat → Int32)).getD k (fun _ => 0)) (fun k => ([0, 0, 0, 0, 0, 0, 0, 0, 0, n 9, 0, n 11, n 12, 0, 0, 0, 0, 0, 0, 0, 0, 0, 0, 0, 0, 0, 0, 0, 0, 0, 0, 0, 0, 0, 0, 0, 0, 0, 0, 0, 0, 0, 0, 0, n 44, n 45, n 46, n 47, z_149, 0, 0, 0, 0, 0, 0, 0, 0, 0, 0, 0] : List Int32).getD k 0) v1 H.size ⟨b_1, b_2, b_3, b_4, b_5, b_6, b_7, b_8, b_9, b_10, b_11, b_12, i_13, i_14, i_151, i_152, i_17, i_18, i_150, j_20, j_21, j_22, j_23, j_24, j_25, j_26, j_192, j_28, j_29⟩ (by omega) (by show v1.toInt < ((n 11)).toInt; omega) (by show ((F 13) (Int32.toNatClampNeg v1)).toInt = 1; omega) (by show ((upd (F 24) (Int32.toNatClampNeg v1) (vp_nar .boolean 0)) (Int32.toNatClampNeg v1)).toInt = 0; rw [upd_eq, nb0]; decide) (by show ((F 20) (Int32.toNatClampNeg v1)).toInt ≤ 23; omega)) (cwV 1 hg (gw_V gm_methodLink_RX10_253_yX10_gathers gm_instanceMethod_yX10_gathers gm_selects_RX10_yX10_gathers_yX10_gathers gm_initialized_RX10 gm_code_yX10_gathers_cX10_gathers_5_none) rfl rfl rfl (by decide +kernel) ⟨Nat.le_of_ble_eq_true rfl, Nat.le_of_ble_eq_true rfl⟩) ⟨fun a U g mk q => by obtain ⟨q0, q1, qP, qK, qD, qN⟩ := q; exact ⟨q0, q1, qP, va_K.moved (u := U) (U := U.calling g mk a) (Vm.Alike.refl U.vm) qK, qD, nx_same (u := U) (U := U.calling g mk a) rfl qN⟩, va_recv hK hP (ci := 10) (q0 := 0) rfl rfl, fun U hU hW => ⟨rfl, by rw [hU], by rw [hU]; exact hP, va_K.moved hW.alike hK, hD.weaken (fun _ _ _ _ => trivial), nx_warm hW hN⟩⟩ rfl rfl hl.1 rfl (lv_room (Nat.le_of_ble_eq_true rfl)) dX10_turn_93 ⟨Nat.le_of_ble_eq_true rfl, Nat.le_of_ble_eq_true rfl⟩) hS (fun q _ h => hFc q h) hFc (fun u_194 t H1 locs ht hvm hw hB hz1 hk1 hS => ?_)
        obtain ⟨F_195, n_196⟩ := u_194
        obtain ⟨hP, hD, hI_197⟩ := hB
        have hI_197 : I10 (kp + 1) F_195 n_196 := hI_197
        obtain ⟨b_198, b_199, b_200, b_201, b_202, b_203, b_204, b_205, b_206, b_207, b_208, b_209, i_210, i_211, i_212, i_213, i_214, i_215, i_216, j_217, j_218, j_219, j_220, j_221, j_222, j_223, j_224, j_225, j_226⟩ := id hI_197
        rw [ht] at hP
        have hD := hD.weaken (fun k q _ h => hFc _ h)
        generalize H1 = H at hP hS ⊢
        have hP : va_P (dC, dI) vwCl (w10 h0 X C (F_195 0) (F_195 1) (F_195 2) (F_195 3) (F_195 4) (F_195 5) (F_195 6) (F_195 7) (F_195 8) (F_195 10) (F_195 13) (F_195 14) (F_195 15) (F_195 16) (F_195 17) (F_195 18) (F_195 19) (F_195 20) (F_195 21) (F_195 22) (F_195 23) (F_195 24) (F_195 25) (F_195 26) (F_195 27) (F_195 28) (F_195 29) (F_195 30) (F_195 31) (F_195 32) (F_195 33) (F_195 34) (F_195 35) (F_195 36) (F_195 37) (F_195 38) (F_195 39) (F_195 40) (F_195 41) (F_195 42) (F_195 43) (F_195 49) (F_195 50) (F_195 51) (F_195 52) (F_195 53) (F_195 54) (F_195 55) (F_195 56) (F_195 57) (F_195 58) (F_195 59) (n_196 9) (n_196 11) (n_196 12) (n_196 44) (n_196 45) (n_196 46) (n_196 47) (n_196 48)) H := hP
        have hD : va_D A (w10 h0 X C (F_195 0) (F_195 1) (F_195 2) (F_195 3) (F_195 4) (F_195 5) (F_195 6) (F_195 7) (F_195 8) (F_195 10) (F_195 13) (F_195 14) (F_195 15) (F_195 16) (F_195 17) (F_195 18) (F_195 19) (F_195 20) (F_195 21) (F_195 22) (F_195 23) (F_195 24) (F_195 25) (F_195 26) (F_195 27) (F_195 28) (F_195 29) (F_195 30) (F_195 31) (F_195 32) (F_195 33) (F_195 34) (F_195 35) (F_195 36) (F_195 37) (F_195 38) (F_195 39) (F_195 40) (F_195 41) (F_195 42) (F_195 43) (F_195 49) (F_195 50) (F_195 51) (F_195 52) (F_195 53) (F_195 54) (F_195 55) (F_195 56) (F_195 57) (F_195 58) (F_195 59) (n_196 9) (n_196 11) (n_196 12) (n_196 44) (n_196 45) (n_196 46) (n_196 47) (n_196 48)) := hD
        have w_227 : ((n 11)).toInt ≤ (n_196 11).toInt := hw
        try simp only [upd_eq] at w_227
        refine lv_goto (tgt := 104) hx hb dX10_turn_96 (by decide) ?_
        exact W.vret hx hb hr (fun t ht hW => ⟨⟨(F_195, n_196), rfl, (by show (n 11).toInt ≤ ((n_196 11)).toInt; omega), by rw [ht]; exact hP, hD, I10_mono (k := (kp + 1)) ⟨b_198, b_199, b_200, b_201, b_202, b_203, b_204, b_205, b_206, b_207, b_208, b_209, i_210, i_211, i_212, i_213, i_214, i_215, i_216, j_217, j_218, j_219, j_220, j_221, j_222, j_223, j_224, j_225, j_226⟩ (by omega)⟩, hS.F ht⟩) hS.2.2 dX10_turn_104
    · simp only [i_lt, i_le, i_eq, ti_0] at c_154
      refine lv_aload_n hx hb dX10_turn_50 rfl (lv_at hl 0 rfl) ?_
      refine va_get (D := (dC, dI)) (ci := 10) (v := .ref (X 25)) (C := RX10) (T := TX10) (N := 60) hx hb hg gb_10 hown hK hP 0 rfl rfl 25 (by decide) (hg _ gm_fieldLink_RX10_81_ErrandGuildModel_isTold_AZ_) (fun _ h9 => h9) rfl dX10_turn_51 ?_
      refine lv_iload_n hx hb dX10_turn_54 rfl (lv_at hl 1 rfl) ?_
      refine lv_iconst (v := 0) hx hb dX10_turn_55 (by decide) ?_
      refine va_zast (f := F 25) hx hb hK hP hD hS 23 22 rfl rfl (vp_in_iff.mpr ⟨by omega, by omega⟩) dX10_turn_56 (fun H locs hP hD hS => ?_)
      have hP : va_P (dC, dI) vwCl (w10 h0 X C (F 0) (F 1) (F 2) (F 3) (F 4) (F 5) (F 6) (F 7) (F 8) (F 10) (F 13) (F 14) (F 15) (F 16) (F 17) (F 18) (F 19) (F 20) (F 21) (F 22) (F 23) (F 24) (upd (F 25) (Int32.toNatClampNeg v1) (vp_nar .boolean 0)) (F 26) (F 27) (F 28) (F 29) (F 30) (F 31) (F 32) (F 33) (F 34) (F 35) (F 36) (F 37) (F 38) (F 39) (F 40) (F 41) (F 42) (F 43) (F 49) (F 50) (F 51) (F 52) (F 53) (F 54) (F 55) (F 56) (F 57) (F 58) (upd (F 59) (Int32.toNatClampNeg (n 48)) z_148) (n 9) (n 11) (n 12) (n 44) (n 45) (n 46) (n 47) z_149) H := hP
      have hD : va_D A (w10 h0 X C (F 0) (F 1) (F 2) (F 3) (F 4) (F 5) (F 6) (F 7) (F 8) (F 10) (F 13) (F 14) (F 15) (F 16) (F 17) (F 18) (F 19) (F 20) (F 21) (F 22) (F 23) (F 24) (upd (F 25) (Int32.toNatClampNeg v1) (vp_nar .boolean 0)) (F 26) (F 27) (F 28) (F 29) (F 30) (F 31) (F 32) (F 33) (F 34) (F 35) (F 36) (F 37) (F 38) (F 39) (F 40) (F 41) (F 42) (F 43) (F 49) (F 50) (F 51) (F 52) (F 53) (F 54) (F 55) (F 56) (F 57) (F 58) (upd (F 59) (Int32.toNatClampNeg (n 48)) z_148) (n 9) (n 11) (n 12) (n 44) (n 45) (n 46) (n 47) z_149) := hD
      refine lv_aload_n hx hb dX10_turn_57 rfl (lv_at hl 0 rfl) ?_
      refine va_get (D := (dC, dI)) (ci := 10) (v := .ref (X 24)) (C := RX10) (T := TX10) (N := 60) hx hb hg gb_10 hown hK hP 0 rfl rfl 24 (by decide) (hg _ gm_fieldLink_RX10_78_ErrandGuildModel_isBack_AZ_) (fun _ h9 => h9) rfl dX10_turn_58 ?_
      refine lv_iload_n hx hb dX10_turn_61 rfl (lv_at hl 1 rfl) ?_
      refine lv_iconst (v := 0) hx hb dX10_turn_62 (by decide) ?_
      refine va_zast (f := F 24) hx hb hK hP hD hS 22 21 rfl rfl (vp_in_iff.mpr ⟨by omega, by omega⟩) dX10_turn_63 (fun H locs hP hD hS => ?_)
      have hP : va_P (dC, dI) vwCl (w10 h0 X C (F 0) (F 1) (F 2) (F 3) (F 4) (F 5) (F 6) (F 7) (F 8) (F 10) (F 13) (F 14) (F 15) (F 16) (F 17) (F 18) (F 19) (F 20) (F 21) (F 22) (F 23) (upd (F 24) (Int32.toNatClampNeg v1) (vp_nar .boolean 0)) (upd (F 25) (Int32.toNatClampNeg v1) (vp_nar .boolean 0)) (F 26) (F 27) (F 28) (F 29) (F 30) (F 31) (F 32) (F 33) (F 34) (F 35) (F 36) (F 37) (F 38) (F 39) (F 40) (F 41) (F 42) (F 43) (F 49) (F 50) (F 51) (F 52) (F 53) (F 54) (F 55) (F 56) (F 57) (F 58) (upd (F 59) (Int32.toNatClampNeg (n 48)) z_148) (n 9) (n 11) (n 12) (n 44) (n 45) (n 46) (n 47) z_149) H := hP
      have hD : va_D A (w10 h0 X C (F 0) (F 1) (F 2) (F 3) (F 4) (F 5) (F 6) (F 7) (F 8) (F 10) (F 13) (F 14) (F 15) (F 16) (F 17) (F 18) (F 19) (F 20) (F 21) (F 22) (F 23) (upd (F 24) (Int32.toNatClampNeg v1) (vp_nar .boolean 0)) (upd (F 25) (Int32.toNatClampNeg v1) (vp_nar .boolean 0)) (F 26) (F 27) (F 28) (F 29) (F 30) (F 31) (F 32) (F 33) (F 34) (F 35) (F 36) (F 37) (F 38) (F 39) (F 40) (F 41) (F 42) (F 43) (F 49) (F 50) (F 51) (F 52) (F 53) (F 54) (F 55) (F 56) (F 57) (F 58) (upd (F 59) (Int32.toNatClampNeg (n 48)) z_148) (n 9) (n 11) (n 12) (n 44) (n 45) (n 46) (n 47) z_149) := hD
      have j_228 : J7 (upd (F 24) (Int32.toNatClampNeg v1) (vp_nar .boolean 0)) (F 20) := J7_ib j_27 (Int32.toNatClampNeg v1) (Or.inl (by rw [nb0]; decide))
      refine lv_aload_n hx hb dX10_turn_64 rfl (lv_at hl 0 rfl) ?_
      refine lv_iload_n hx hb dX10_turn_65 rfl (lv_at hl 1 rfl) ?_
      refine lv_iconst (v := 4) hx hb dX10_turn_66 (by decide) ?_
      refine lv_iconst (v := -1) hx hb dX10_turn_67 (by decide) ?_
      refine lv_iconst (v := 0) hx hb dX10_turn_68 (by decide) ?_
      have hFc := free_all hD hS hA
      refine va_callv (va_runV (As := [.int v1, .int 4, .int (-1), .int 0]) (rest := []) ⟨hx, hb, hml, hown, hg⟩ (c_X10_fails l dC dI (kp + 1) h0 X C (fun k => ([F 0, F 1, F 2, F 3, F 4, F 5, F 6, F 7, F 8, (fun _ => 0), F 10, (fun _ => 0), (fun _ => 0), F 13, F 14, F 15, F 16, F 17, F 18, F 19, F 20, F 21, F 22, F 23, upd (F 24) (Int32.toNatClampNeg v1) (vp_nar .boolean 0), upd (F 25) (Int32.toNatClampNeg v1) (vp_nar .boolean 0), F 26, F 27, F 28, F 29, F 30, F 31, F 32, F 33, F 34, F 35, F 36, F 37, F 38, F 39, F 40, F 41, F 42, F 43, (fun _ => 0), (fun _ => 0), (fun _ => 0), (fun _ => 0), (fun _ => 0), F 49, F 50, F 51, F 52, F 53, F 54, F 55, F 56, F 57, F 58, upd (F 59) (Int32.toNatClampNeg (n 48)) z_148] : List (Nat → Int32)).getD k (fun _ => 0)) (fun k => ([0, 0, 0, 0, 0, 0, 0, 0, 0, n 9, 0, n 11, n 12, 0, 0, 0, 0, 0, 0, 0, 0, 0, 0, 0, 0, 0, 0, 0, 0, 0, 0, 0, 0, 0, 0, 0, 0, 0, 0, 0, 0, 0, 0, 0, n 44, n 45, n 46, n 47, z_149, 0, 0, 0, 0, 0, 0, 0, 0, 0, 0, 0] : List Int32).getD k 0) v1 4 (-1) 0 H.size ⟨b_1, b_2, b_3, b_4, b_5, b_6, b_7, b_8, b_9, b_10, b_11, b_12, i_13, i_14, i_151, i_152, i_17, i_18, i_150, j_20, j_21, j_22, j_23, j_24, j_25, j_26, j_228, j_28, j_29⟩ (by have t_0 := ti_4; have t_1 := ti_m1; have t_2 := ti_0; omega) (by have t_0 := ti_4; have t_1 := ti_m1; have t_2 := ti_0; show v1.toInt < ((n 11)).toInt; omega) (by have t_0 := ti_4; have t_1 := ti_m1; have t_2 := ti_0; show ((F 13) (Int32.toNatClampNeg v1)).toInt = 1; omega) (by show ((upd (F 24) (Int32.toNatClampNeg v1) (vp_nar .boolean 0)) (Int32.toNatClampNeg v1)).toInt = 0; rw [upd_eq, nb0]; decide) (by have t_0 := ti_4; have t_1 := ti_m1; have t_2 := ti_0; omega)) (cwV 4 hg (gw_V gm_methodLink_RX10_225_yX10_fails gm_instanceMethod_yX10_fails gm_selects_RX10_yX10_fails_yX10_fails gm_initialized_RX10 gm_code_yX10_fails_cX10_fails_6_none) rfl rfl rfl (by decide +kernel) ⟨Nat.le_of_ble_eq_true rfl, Nat.le_of_ble_eq_true rfl⟩) ⟨fun a U g mk q => by obtain ⟨q0, q1, qP, qK, qD, qN⟩ := q; exact ⟨q0, q1, qP, va_K.moved (u := U) (U := U.calling g mk a) (Vm.Alike.refl U.vm) qK, qD, nx_same (u := U) (U := U.calling g mk a) rfl qN⟩, va_recv hK hP (ci := 10) (q0 := 0) rfl rfl, fun U hU hW => ⟨rfl, by rw [hU], by rw [hU]; exact hP, va_K.moved hW.alike hK, hD.weaken (fun _ _ _ _ => trivial), nx_warm hW hN⟩⟩ rfl rfl hl.1 rfl (lv_room (Nat.le_of_ble_eq_true rfl)) dX10_turn_69 ⟨Nat.le_of_ble_eq_true rfl, Nat.le_of_ble_eq_true rfl⟩) hS (fun q _ h => hFc q h) hFc (fun u_230 t H1 locs ht hvm hw hB hz1 hk1 hS => ?_)
      obtain ⟨F_231, n_232⟩ := u_230
      obtain ⟨hP, hD, hI_233⟩ := hB
      have hI_233 : I10 (kp + 1) F_231 n_232 := hI_233
      obtain ⟨b_234, b_235, b_236, b_237, b_238, b_239, b_240, b_241, b_242, b_243, b_244, b_245, i_246, i_247, i_248, i_249, i_250, i_251, i_252, j_253, j_254, j_255, j_256, j_257, j_258, j_259, j_260, j_261, j_262⟩ := id hI_233
      rw [ht] at hP
      have hD := hD.weaken (fun k q _ h => hFc _ h)
      generalize H1 = H at hP hS ⊢
      have hP : va_P (dC, dI) vwCl (w10 h0 X C (F_231 0) (F_231 1) (F_231 2) (F_231 3) (F_231 4) (F_231 5) (F_231 6) (F_231 7) (F_231 8) (F_231 10) (F_231 13) (F_231 14) (F_231 15) (F_231 16) (F_231 17) (F_231 18) (F_231 19) (F_231 20) (F_231 21) (F_231 22) (F_231 23) (F_231 24) (F_231 25) (F_231 26) (F_231 27) (F_231 28) (F_231 29) (F_231 30) (F_231 31) (F_231 32) (F_231 33) (F_231 34) (F_231 35) (F_231 36) (F_231 37) (F_231 38) (F_231 39) (F_231 40) (F_231 41) (F_231 42) (F_231 43) (F_231 49) (F_231 50) (F_231 51) (F_231 52) (F_231 53) (F_231 54) (F_231 55) (F_231 56) (F_231 57) (F_231 58) (F_231 59) (n_232 9) (n_232 11) (n_232 12) (n_232 44) (n_232 45) (n_232 46) (n_232 47) (n_232 48)) H := hP
      have hD : va_D A (w10 h0 X C (F_231 0) (F_231 1) (F_231 2) (F_231 3) (F_231 4) (F_231 5) (F_231 6) (F_231 7) (F_231 8) (F_231 10) (F_231 13) (F_231 14) (F_231 15) (F_231 16) (F_231 17) (F_231 18) (F_231 19) (F_231 20) (F_231 21) (F_231 22) (F_231 23) (F_231 24) (F_231 25) (F_231 26) (F_231 27) (F_231 28) (F_231 29) (F_231 30) (F_231 31) (F_231 32) (F_231 33) (F_231 34) (F_231 35) (F_231 36) (F_231 37) (F_231 38) (F_231 39) (F_231 40) (F_231 41) (F_231 42) (F_231 43) (F_231 49) (F_231 50) (F_231 51) (F_231 52) (F_231 53) (F_231 54) (F_231 55) (F_231 56) (F_231 57) (F_231 58) (F_231 59) (n_232 9) (n_232 11) (n_232 12) (n_232 44) (n_232 45) (n_232 46) (n_232 47) (n_232 48)) := hD
      have w_263 : ((n 11)).toInt ≤ (n_232 11).toInt := hw
      try simp only [upd_eq] at w_263
      refine lv_goto (tgt := 104) hx hb dX10_turn_72 (by decide) ?_
      exact W.vret hx hb hr (fun t ht hW => ⟨⟨(F_231, n_232), rfl, (by show (n 11).toInt ≤ ((n_232 11)).toInt; omega), by rw [ht]; exact hP, hD, I10_mono (k := (kp + 1)) ⟨b_234, b_235, b_236, b_237, b_238, b_239, b_240, b_241, b_242, b_243, b_244, b_245, i_246, i_247, i_248, i_249, i_250, i_251, i_252, j_253, j_254, j_255, j_256, j_257, j_258, j_259, j_260, j_261, j_262⟩ (by omega)⟩, hS.F ht⟩) hS.2.2 dX10_turn_104

set_option maxHeartbeats 8000000 in
set_option maxRecDepth 100000 in
theorem c_X10_oneBeat (l : Launch) (dC : Nat → ClassId) (dI : Nat → Nat → Nat) (kp : Int) (h0 : Nat) (X : Nat → Nat) (C : Nat → ClassId) (F : Nat → Nat → Int32) (n : Nat → Int32) (sz : Nat) (hI : I10 kp F n) (hkp : kp ≤ 1900000000) : Met l yX10_oneBeat (.code yX10_oneBeat cX10_oneBeat 4 none :: gw) ({ frames := 6, cells := 0, slots := 0, locals := 143 }) (va_Pc [.ref h0] (fun U => U.heap.size = sz ∧ va_P (dC, dI) vwCl (w10 h0 X C (F 0) (F 1) (F 2) (F 3) (F 4) (F 5) (F 6) (F 7) (F 8) (F 10) (F 13) (F 14) (F 15) (F 16) (F 17) (F 18) (F 19) (F 20) (F 21) (F 22) (F 23) (F 24) (F 25) (F 26) (F 27) (F 28) (F 29) (F 30) (F 31) (F 32) (F 33) (F 34) (F 35) (F 36) (F 37) (F 38) (F 39) (F 40) (F 41) (F 42) (F 43) (F 49) (F 50) (F 51) (F 52) (F 53) (F 54) (F 55) (F 56) (F 57) (F 58) (F 59) (n 9) (n 11) (n 12) (n 44) (n 45) (n 46) (n 47) (n 48)) U.heap ∧ va_K (dC, dI) vwCl (t10 C) U ∧ va_D (fun _ => True) (w10 h0 X C (F 0) (F 1) (F 2) (F 3) (F 4) (F 5) (F 6) (F 7) (F 8) (F 10) (F 13) (F 14) (F 15) (F 16) (F 17) (F 18) (F 19) (F 20) (F 21) (F 22) (F 23) (F 24) (F 25) (F 26) (F 27) (F 28) (F 29) (F 30) (F 31) (F 32) (F 33) (F 34) (F 35) (F 36) (F 37) (F 38) (F 39) (F 40) (F 41) (F 42) (F 43) (F 49) (F 50) (F 51) (F 52) (F 53) (F 54) (F 55) (F 56) (F 57) (F 58) (F 59) (n 9) (n 11) (n 12) (n 44) (n 45) (n 46) (n 47) (n 48)) ∧ nx U)) (va_Qv (fun (u : (Nat → Nat → Int32) × (Nat → Int32)) => (n 11).toInt ≤ (u.2 11).toInt) (fun u t => va_P (dC, dI) vwCl (w10 h0 X C (u.1 0) (u.1 1) (u.1 2) (u.1 3) (u.1 4) (u.1 5) (u.1 6) (u.1 7) (u.1 8) (u.1 10) (u.1 13) (u.1 14) (u.1 15) (u.1 16) (u.1 17) (u.1 18) (u.1 19) (u.1 20) (u.1 21) (u.1 22) (u.1 23) (u.1 24) (u.1 25) (u.1 26) (u.1 27) (u.1 28) (u.1 29) (u.1 30) (u.1 31) (u.1 32) (u.1 33) (u.1 34) (u.1 35) (u.1 36) (u.1 37) (u.1 38) (u.1 39) (u.1 40) (u.1 41) (u.1 42) (u.1 43) (u.1 49) (u.1 50) (u.1 51) (u.1 52) (u.1 53) (u.1 54) (u.1 55) (u.1 56) (u.1 57) (u.1 58) (u.1 59) (u.2 9) (u.2 11) (u.2 12) (u.2 44) (u.2 45) (u.2 46) (u.2 47) (u.2 48)) t.heap ∧ va_D (va_A (w10 h0 X C (F 0) (F 1) (F 2) (F 3) (F 4) (F 5) (F 6) (F 7) (F 8) (F 10) (F 13) (F 14) (F 15) (F 16) (F 17) (F 18) (F 19) (F 20) (F 21) (F 22) (F 23) (F 24) (F 25) (F 26) (F 27) (F 28) (F 29) (F 30) (F 31) (F 32) (F 33) (F 34) (F 35) (F 36) (F 37) (F 38) (F 39) (F 40) (F 41) (F 42) (F 43) (F 49) (F 50) (F 51) (F 52) (F 53) (F 54) (F 55) (F 56) (F 57) (F 58) (F 59) (n 9) (n 11) (n 12) (n 44) (n 45) (n 46) (n 47) (n 48)) sz) (w10 h0 X C (u.1 0) (u.1 1) (u.1 2) (u.1 3) (u.1 4) (u.1 5) (u.1 6) (u.1 7) (u.1 8) (u.1 10) (u.1 13) (u.1 14) (u.1 15) (u.1 16) (u.1 17) (u.1 18) (u.1 19) (u.1 20) (u.1 21) (u.1 22) (u.1 23) (u.1 24) (u.1 25) (u.1 26) (u.1 27) (u.1 28) (u.1 29) (u.1 30) (u.1 31) (u.1 32) (u.1 33) (u.1 34) (u.1 35) (u.1 36) (u.1 37) (u.1 38) (u.1 39) (u.1 40) (u.1 41) (u.1 42) (u.1 43) (u.1 49) (u.1 50) (u.1 51) (u.1 52) (u.1 53) (u.1 54) (u.1 55) (u.1 56) (u.1 57) (u.1 58) (u.1 59) (u.2 9) (u.2 11) (u.2 12) (u.2 44) (u.2 45) (u.2 46) (u.2 47) (u.2 48)) ∧ I10 (kp + 400) u.1 u.2) (va_A (w10 h0 X C (F 0) (F 1) (F 2) (F 3) (F 4) (F 5) (F 6) (F 7) (F 8) (F 10) (F 13) (F 14) (F 15) (F 16) (F 17) (F 18) (F 19) (F 20) (F 21) (F 22) (F 23) (F 24) (F 25) (F 26) (F 27) (F 28) (F 29) (F 30) (F 31) (F 32) (F 33) (F 34) (F 35) (F 36) (F 37) (F 38) (F 39) (F 40) (F 41) (F 42) (F 43) (F 49) (F 50) (F 51) (F 52) (F 53) (F 54) (F 55) (F 56) (F 57) (F 58) (F 59) (n 9) (n 11) (n 12) (n 44) (n 45) (n 46) (n 47) (n 48)) sz)) 0 0 (va_A (w10 h0 X C (F 0) (F 1) (F 2) (F 3) (F 4) (F 5) (F 6) (F 7) (F 8) (F 10) (F 13) (F 14) (F 15) (F 16) (F 17) (F 18) (F 19) (F 20) (F 21) (F 22) (F 23) (F 24) (F 25) (F 26) (F 27) (F 28) (F 29) (F 30) (F 31) (F 32) (F 33) (F 34) (F 35) (F 36) (F 37) (F 38) (F 39) (F 40) (F 41) (F 42) (F 43) (F 49) (F 50) (F 51) (F 52) (F 53) (F 54) (F 55) (F 56) (F 57) (F 58) (F 59) (n 9) (n 11) (n 12) (n 44) (n 45) (n 46) (n 47) (n 48)) sz) := by
  refine Met.ofW (cc := cX10_oneBeat) (maxL := 4) (ret := none) (by decide) rfl ?_
  intro p e s m args below meth c s₁ B hml hv
  obtain ⟨rfl, hsz, hP, hK, hD0, hN⟩ := hv
  have hx := B.exec
  have hb := B.bytes
  have hr := B.returns
  have hts := atoms_spec (ws := .code yX10_oneBeat cX10_oneBeat 4 none :: gw) B.pre
  have hg : ∀ w ∈ gw, w.before _ s = true := fun w h => hts w (List.mem_cons_of_mem _ h)
  have hown : s.vm.findClass RX10 = some m.cls := findClass_of_methodNamed B.named
  have hlocks := B.notSynchronized
  subst hsz
  have hD := hD0.self (sz := s.heap.size)
  generalize hAe : va_A (w10 h0 X C (F 0) (F 1) (F 2) (F 3) (F 4) (F 5) (F 6) (F 7) (F 8) (F 10) (F 13) (F 14) (F 15) (F 16) (F 17) (F 18) (F 19) (F 20) (F 21) (F 22) (F 23) (F 24) (F 25) (F 26) (F 27) (F 28) (F 29) (F 30) (F 31) (F 32) (F 33) (F 34) (F 35) (F 36) (F 37) (F 38) (F 39) (F 40) (F 41) (F 42) (F 43) (F 49) (F 50) (F 51) (F 52) (F 53) (F 54) (F 55) (F 56) (F 57) (F 58) (F 59) (n 9) (n 11) (n 12) (n 44) (n 45) (n 46) (n 47) (n 48)) s.heap.size = A at hD ⊢
  have hA : ∀ q : Nat, s.heap.size ≤ q → A q := fun q h => by rw [← hAe]; exact Or.inr h
  have hS : va_S A s.heap s.heap [] := va_S.rf
  have hP : va_P (dC, dI) vwCl (w10 h0 X C (F 0) (F 1) (F 2) (F 3) (F 4) (F 5) (F 6) (F 7) (F 8) (F 10) (F 13) (F 14) (F 15) (F 16) (F 17) (F 18) (F 19) (F 20) (F 21) (F 22) (F 23) (F 24) (F 25) (F 26) (F 27) (F 28) (F 29) (F 30) (F 31) (F 32) (F 33) (F 34) (F 35) (F 36) (F 37) (F 38) (F 39) (F 40) (F 41) (F 42) (F 43) (F 49) (F 50) (F 51) (F 52) (F 53) (F 54) (F 55) (F 56) (F 57) (F 58) (F 59) (n 9) (n 11) (n 12) (n 44) (n 45) (n 46) (n 47) (n 48)) s.heap := hP
  have hl := lv_entry ([.ref h0]) (n := 4) (Nat.le_of_ble_eq_true rfl)
  rw [lg_entry_eq]
  generalize (lg_sl ([.ref h0]) ++ List.replicate (4 - (lg_sl ([.ref h0])).length) Slot.unset).toArray = ls at hl ⊢
  have hl : lv_has ls 4 [(0, .ref h0)] := hl
  obtain ⟨b_1, b_2, b_3, b_4, b_5, b_6, b_7, b_8, b_9, b_10, b_11, b_12, i_13, i_14, i_15, i_16, i_17, i_18, i_19, j_20, j_21, j_22, j_23, j_24, j_25, j_26, j_27, j_28, j_29⟩ := id hI
  refine lv_aload_n hx hb dX10_oneBeat_0 rfl (lv_at hl 0 rfl) ?_
  refine lv_aload_n hx hb dX10_oneBeat_1 rfl (lv_at hl 0 rfl) ?_
  refine va_get (D := (dC, dI)) (ci := 10) (v := .int (n 12)) (C := RX10) (T := TX10) (N := 60) hx hb hg gb_10 hown hK hP 0 rfl rfl 12 (by decide) (hg _ gm_fieldLink_RX10_186_ErrandGuildModel_beats_I_) (fun _ h9 => h9) rfl dX10_oneBeat_2 ?_
  refine lv_iconst (v := 1) hx hb dX10_oneBeat_5 (by decide) ?_
  refine lv_iadd hx hb dX10_oneBeat_6 ?_
  refine lv_topi (fun z_30 ez_30 => ?_)
  refine va_put (D := (dC, dI)) (ci := 10) (v := .int z_30) (ty := .int) (C := RX10) (T := TX10) (N := 60) hx hb hg gb_10 tyX10 tyX10_ok nmX10 hown hK hP hD hS 0 rfl rfl 12 (by decide) (hg _ gm_fieldLink_RX10_186_ErrandGuildModel_beats_I_) (fun _ h9 => h9) rfl (by decide +kernel) rfl rfl (Nat.le_of_ble_eq_true rfl) dX10_oneBeat_7 (fun H locs hP hD hS => ?_)
  have hP : va_P (dC, dI) vwCl (w10 h0 X C (F 0) (F 1) (F 2) (F 3) (F 4) (F 5) (F 6) (F 7) (F 8) (F 10) (F 13) (F 14) (F 15) (F 16) (F 17) (F 18) (F 19) (F 20) (F 21) (F 22) (F 23) (F 24) (F 25) (F 26) (F 27) (F 28) (F 29) (F 30) (F 31) (F 32) (F 33) (F 34) (F 35) (F 36) (F 37) (F 38) (F 39) (F 40) (F 41) (F 42) (F 43) (F 49) (F 50) (F 51) (F 52) (F 53) (F 54) (F 55) (F 56) (F 57) (F 58) (F 59) (n 9) (n 11) z_30 (n 44) (n 45) (n 46) (n 47) (n 48)) H := hP
  have hD : va_D A (w10 h0 X C (F 0) (F 1) (F 2) (F 3) (F 4) (F 5) (F 6) (F 7) (F 8) (F 10) (F 13) (F 14) (F 15) (F 16) (F 17) (F 18) (F 19) (F 20) (F 21) (F 22) (F 23) (F 24) (F 25) (F 26) (F 27) (F 28) (F 29) (F 30) (F 31) (F 32) (F 33) (F 34) (F 35) (F 36) (F 37) (F 38) (F 39) (F 40) (F 41) (F 42) (F 43) (F 49) (F 50) (F 51) (F 52) (F 53) (F 54) (F 55) (F 56) (F 57) (F 58) (F 59) (n 9) (n 11) z_30 (n 44) (n 45) (n 46) (n 47) (n 48)) := hD
  refine lv_iconst (v := 0) hx hb dX10_oneBeat_10 (by decide) ?_
  refine lv_istore_n (lv' := [(1, .int 0), (0, .ref h0)]) hx hb dX10_oneBeat_11 rfl hl (by decide) rfl (fun ls hl => ?_)
  have L12 : ∀ (fuel : Nat) (x_31 : Int32) (F_32 : Nat → Nat → Int32) (n_33 : Nat → Int32) (hI_34 : I10 kp F_32 n_33) (H : Heap) (locs : List Loc) (ls : Array Slot), (201 - x_31.toInt).toNat < fuel → (0 ≤ x_31.toInt ∧ x_31.toInt ≤ 200) → ((n 11).toInt ≤ (n_33 11).toInt) → va_P (dC, dI) vwCl (w10 h0 X C (F_32 0) (F_32 1) (F_32 2) (F_32 3) (F_32 4) (F_32 5) (F_32 6) (F_32 7) (F_32 8) (F_32 10) (F_32 13) (F_32 14) (F_32 15) (F_32 16) (F_32 17) (F_32 18) (F_32 19) (F_32 20) (F_32 21) (F_32 22) (F_32 23) (F_32 24) (F_32 25) (F_32 26) (F_32 27) (F_32 28) (F_32 29) (F_32 30) (F_32 31) (F_32 32) (F_32 33) (F_32 34) (F_32 35) (F_32 36) (F_32 37) (F_32 38) (F_32 39) (F_32 40) (F_32 41) (F_32 42) (F_32 43) (F_32 49) (F_32 50) (F_32 51) (F_32 52) (F_32 53) (F_32 54) (F_32 55) (F_32 56) (F_32 57) (F_32 58) (F_32 59) (n_33 9) (n_33 11) (n_33 12) (n_33 44) (n_33 45) (n_33 46) (n_33 47) (n_33 48)) H → va_D A (w10 h0 X C (F_32 0) (F_32 1) (F_32 2) (F_32 3) (F_32 4) (F_32 5) (F_32 6) (F_32 7) (F_32 8) (F_32 10) (F_32 13) (F_32 14) (F_32 15) (F_32 16) (F_32 17) (F_32 18) (F_32 19) (F_32 20) (F_32 21) (F_32 22) (F_32 23) (F_32 24) (F_32 25) (F_32 26) (F_32 27) (F_32 28) (F_32 29) (F_32 30) (F_32 31) (F_32 32) (F_32 33) (F_32 34) (F_32 35) (F_32 36) (F_32 37) (F_32 38) (F_32 39) (F_32 40) (F_32 41) (F_32 42) (F_32 43) (F_32 49) (F_32 50) (F_32 51) (F_32 52) (F_32 53) (F_32 54) (F_32 55) (F_32 56) (F_32 57) (F_32 58) (F_32 59) (n_33 9) (n_33 11) (n_33 12) (n_33 44) (n_33 45) (n_33 46) (n_33 47) (n_33 48)) → va_S A s.heap H locs → lv_has ls 4 [(1, .int x_31), (0, .ref h0)] → W p l e (headSpec (.code yX10_oneBeat cX10_oneBeat 4 none :: gw) ({ frames := 6, cells := 0, slots := 0, locals := 143 })).room s m ([.ref h0] : List Value).toArray below meth c H locs 0 0 (MQ below (va_Qv (fun (u : (Nat → Nat → Int32) × (Nat → Int32)) => (n 11).toInt ≤ (u.2 11).toInt) (fun u t => va_P (dC, dI) vwCl (w10 h0 X C (u.1 0) (u.1 1) (u.1 2) (u.1 3) (u.1 4) (u.1 5) (u.1 6) (u.1 7) (u.1 8) (u.1 10) (u.1 13) (u.1 14) (u.1 15) (u.1 16) (u.1 17) (u.1 18) (u.1 19) (u.1 20) (u.1 21) (u.1 22) (u.1 23) (u.1 24) (u.1 25) (u.1 26) (u.1 27) (u.1 28) (u.1 29) (u.1 30) (u.1 31) (u.1 32) (u.1 33) (u.1 34) (u.1 35) (u.1 36) (u.1 37) (u.1 38) (u.1 39) (u.1 40) (u.1 41) (u.1 42) (u.1 43) (u.1 49) (u.1 50) (u.1 51) (u.1 52) (u.1 53) (u.1 54) (u.1 55) (u.1 56) (u.1 57) (u.1 58) (u.1 59) (u.2 9) (u.2 11) (u.2 12) (u.2 44) (u.2 45) (u.2 46) (u.2 47) (u.2 48)) t.heap ∧ va_D A (w10 h0 X C (u.1 0) (u.1 1) (u.1 2) (u.1 3) (u.1 4) (u.1 5) (u.1 6) (u.1 7) (u.1 8) (u.1 10) (u.1 13) (u.1 14) (u.1 15) (u.1 16) (u.1 17) (u.1 18) (u.1 19) (u.1 20) (u.1 21) (u.1 22) (u.1 23) (u.1 24) (u.1 25) (u.1 26) (u.1 27) (u.1 28) (u.1 29) (u.1 30) (u.1 31) (u.1 32) (u.1 33) (u.1 34) (u.1 35) (u.1 36) (u.1 37) (u.1 38) (u.1 39) (u.1 40) (u.1 41) (u.1 42) (u.1 43) (u.1 49) (u.1 50) (u.1 51) (u.1 52) (u.1 53) (u.1 54) (u.1 55) (u.1 56) (u.1 57) (u.1 58) (u.1 59) (u.2 9) (u.2 11) (u.2 12) (u.2 44) (u.2 45) (u.2 46) (u.2 47) (u.2 48)) ∧ I10 (kp + 400) u.1 u.2) A) ([.ref h0] : List Value).toArray s 0 0 A) (F0 m 12 ls []) := by
    intro fuel
    induction fuel with
    | zero => intro x_31 F_32 n_33 hI_34 H locs ls hm; exact absurd hm (Nat.not_lt_zero _)
    | succ fuel_36 ih_35 =>
      intro x_31 F_32 n_33 hI_34 H locs ls hm_39 v_37 v_38 hP hD hS hl
      obtain ⟨b_40, b_41, b_42, b_43, b_44, b_45, b_46, b_47, b_48, b_49, b_50, b_51, i_52, i_53, i_54, i_55, i_56, i_57, i_58, j_59, j_60, j_61, j_62, j_63, j_64, j_65, j_66, j_67, j_68⟩ := id hI_34
      refine lv_iload_n hx hb dX10_oneBeat_12 rfl (lv_at hl 0 rfl) ?_
      refine lv_aload_n hx hb dX10_oneBeat_13 rfl (lv_at hl 1 rfl) ?_
      refine va_get (D := (dC, dI)) (ci := 10) (v := .int (n_33 11)) (C := RX10) (T := TX10) (N := 60) hx hb hg gb_10 hown hK hP 0 rfl rfl 11 (by decide) (hg _ gm_fieldLink_RX10_176_ErrandGuildModel_runs_I_) (fun _ h9 => h9) rfl dX10_oneBeat_14 ?_
      refine lv_icmp_ge (tgt := 122) hx hb dX10_oneBeat_17 (by decide) (fun c_69 => ?_) (fun c_69 => ?_)
      · simp only [i_lt, i_le, i_eq] at c_69
        refine lv_aload_n hx hb dX10_oneBeat_122 rfl (lv_at hl 1 rfl) ?_
        refine va_get (D := (dC, dI)) (ci := 10) (v := .int (n_33 11)) (C := RX10) (T := TX10) (N := 60) hx hb hg gb_10 hown hK hP 0 rfl rfl 11 (by decide) (hg _ gm_fieldLink_RX10_176_ErrandGuildModel_runs_I_) (fun _ h9 => h9) rfl dX10_oneBeat_123 ?_
        refine lv_istore_n (lv' := [(1, .int (n_33 11)), (0, .ref h0)]) hx hb dX10_oneBeat_126 rfl hl (by decide) rfl (fun ls hl => ?_)
        refine lv_iconst (v := 0) hx hb dX10_oneBeat_127 (by decide) ?_
        refine lv_istore_n (lv' := [(2, .int 0), (1, .int (n_33 11)), (0, .ref h0)]) hx hb dX10_oneBeat_128 rfl hl (by decide) rfl (fun ls hl => ?_)
        have L129 : ∀ (fuel : Nat) (x_70 : Int32) (F_71 : Nat → Nat → Int32) (n_72 : Nat → Int32) (hI_73 : I10 (kp + 2 * x_70.toInt) F_71 n_72) (H : Heap) (locs : List Loc) (ls : Array Slot), (201 - x_70.toInt).toNat < fuel → (0 ≤ x_70.toInt ∧ x_70.toInt ≤ 200) → ((n_33 11).toInt ≤ (n_72 11).toInt) → ((n 11).toInt ≤ (n_72 11).toInt) → va_P (dC, dI) vwCl (w10 h0 X C (F_71 0) (F_71 1) (F_71 2) (F_71 3) (F_71 4) (F_71 5) (F_71 6) (F_71 7) (F_71 8) (F_71 10) (F_71 13) (F_71 14) (F_71 15) (F_71 16) (F_71 17) (F_71 18) (F_71 19) (F_71 20) (F_71 21) (F_71 22) (F_71 23) (F_71 24) (F_71 25) (F_71 26) (F_71 27) (F_71 28) (F_71 29) (F_71 30) (F_71 31) (F_71 32) (F_71 33) (F_71 34) (F_71 35) (F_71 36) (F_71 37) (F_71 38) (F_71 39) (F_71 40) (F_71 41) (F_71 42) (F_71 43) (F_71 49) (F_71 50) (F_71 51) (F_71 52) (F_71 53) (F_71 54) (F_71 55) (F_71 56) (F_71 57) (F_71 58) (F_71 59) (n_72 9) (n_72 11) (n_72 12) (n_72 44) (n_72 45) (n_72 46) (n_72 47) (n_72 48)) H → va_D A (w10 h0 X C (F_71 0) (F_71 1) (F_71 2) (F_71 3) (F_71 4) (F_71 5) (F_71 6) (F_71 7) (F_71 8) (F_71 10) (F_71 13) (F_71 14) (F_71 15) (F_71 16) (F_71 17) (F_71 18) (F_71 19) (F_71 20) (F_71 21) (F_71 22) (F_71 23) (F_71 24) (F_71 25) (F_71 26) (F_71 27) (F_71 28) (F_71 29) (F_71 30) (F_71 31) (F_71 32) (F_71 33) (F_71 34) (F_71 35) (F_71 36) (F_71 37) (F_71 38) (F_71 39) (F_71 40) (F_71 41) (F_71 42) (F_71 43) (F_71 49) (F_71 50) (F_71 51) (F_71 52) (F_71 53) (F_71 54) (F_71 55) (F_71 56) (F_71 57) (F_71 58) (F_71 59) (n_72 9) (n_72 11) (n_72 12) (n_72 44) (n_72 45) (n_72 46) (n_72 47) (n_72 48)) → va_S A s.heap H locs → lv_has ls 4 [(2, .int x_70), (1, .int (n_33 11)), (0, .ref h0)] → W p l e (headSpec (.code yX10_oneBeat cX10_oneBeat 4 none :: gw) ({ frames := 6, cells := 0, slots := 0, locals := 143 })).room s m ([.ref h0] : List Value).toArray below meth c H locs 0 0 (MQ below (va_Qv (fun (u : (Nat → Nat → Int32) × (Nat → Int32)) => (n 11).toInt ≤ (u.2 11).toInt) (fun u t => va_P (dC, dI) vwCl (w10 h0 X C (u.1 0) (u.1 1) (u.1 2) (u.1 3) (u.1 4) (u.1 5) (u.1 6) (u.1 7) (u.1 8) (u.1 10) (u.1 13) (u.1 14) (u.1 15) (u.1 16) (u.1 17) (u.1 18) (u.1 19) (u.1 20) (u.1 21) (u.1 22) (u.1 23) (u.1 24) (u.1 25) (u.1 26) (u.1 27) (u.1 28) (u.1 29) (u.1 30) (u.1 31) (u.1 32) (u.1 33) (u.1 34) (u.1 35) (u.1 36) (u.1 37) (u.1 38) (u.1 39) (u.1 40) (u.1 41) (u.1 42) (u.1 43) (u.1 49) (u.1 50) (u.1 51) (u.1 52) (u.1 53) (u.1 54) (u.1 55) (u.1 56) (u.1 57) (u.1 58) (u.1 59) (u.2 9) (u.2 11) (u.2 12) (u.2 44) (u.2 45) (u.2 46) (u.2 47) (u.2 48)) t.heap ∧ va_D A (w10 h0 X C (u.1 0) (u.1 1) (u.1 2) (u.1 3) (u.1 4) (u.1 5) (u.1 6) (u.1 7) (u.1 8) (u.1 10) (u.1 13) (u.1 14) (u.1 15) (u.1 16) (u.1 17) (u.1 18) (u.1 19) (u.1 20) (u.1 21) (u.1 22) (u.1 23) (u.1 24) (u.1 25) (u.1 26) (u.1 27) (u.1 28) (u.1 29) (u.1 30) (u.1 31) (u.1 32) (u.1 33) (u.1 34) (u.1 35) (u.1 36) (u.1 37) (u.1 38) (u.1 39) (u.1 40) (u.1 41) (u.1 42) (u.1 43) (u.1 49) (u.1 50) (u.1 51) (u.1 52) (u.1 53) (u.1 54) (u.1 55) (u.1 56) (u.1 57) (u.1 58) (u.1 59) (u.2 9) (u.2 11) (u.2 12) (u.2 44) (u.2 45) (u.2 46) (u.2 47) (u.2 48)) ∧ I10 (kp + 400) u.1 u.2) A) ([.ref h0] : List Value).toArray s 0 0 A) (F0 m 129 ls []) := by
          intro fuel
          induction fuel with
          | zero => intro x_70 F_71 n_72 hI_73 H locs ls hm; exact absurd hm (Nat.not_lt_zero _)
          | succ fuel_75 ih_74 =>
            intro x_70 F_71 n_72 hI_73 H locs ls hm_79 v_76 v_77 v_78 hP hD hS hl
            obtain ⟨b_80, b_81, b_82, b_83, b_84, b_85, b_86, b_87, b_88, b_89, b_90, b_91, i_92, i_93, i_94, i_95, i_96, i_97, i_98, j_99, j_100, j_101, j_102, j_103, j_104, j_105, j_106, j_107, j_108⟩ := id hI_73
            refine lv_iload_n hx hb dX10_oneBeat_129 rfl (lv_at hl 0 rfl) ?_
            refine lv_iload_n hx hb dX10_oneBeat_130 rfl (lv_at hl 1 rfl) ?_
            refine lv_icmp_ge (tgt := 155) hx hb dX10_oneBeat_131 (by decide) (fun c_109 => ?_) (fun c_109 => ?_)
            · simp only [i_lt, i_le, i_eq] at c_109
              refine lv_iconst (v := 0) hx hb dX10_oneBeat_155 (by decide) ?_
              refine lv_istore_n (lv' := [(2, .int 0), (1, .int (n_33 11)), (0, .ref h0)]) hx hb dX10_oneBeat_156 rfl hl (by decide) rfl (fun ls hl => ?_)
              have L157 : ∀ (fuel : Nat) (x_110 : Int32) (f_111 : Nat → Int32) (h_112 : bd 0 4 f_111) (h_113 : J1 f_111 (F_71 18)) (h_114 : J8 (F_71 32) f_111) (H : Heap) (locs : List Loc) (ls : Array Slot), (201 - x_110.toInt).toNat < fuel → (0 ≤ x_110.toInt ∧ x_110.toInt ≤ 200) → va_P (dC, dI) vwCl (w10 h0 X C (F_71 0) (F_71 1) (F_71 2) (F_71 3) (F_71 4) (F_71 5) (F_71 6) (F_71 7) (F_71 8) (F_71 10) f_111 (F_71 14) (F_71 15) (F_71 16) (F_71 17) (F_71 18) (F_71 19) (F_71 20) (F_71 21) (F_71 22) (F_71 23) (F_71 24) (F_71 25) (F_71 26) (F_71 27) (F_71 28) (F_71 29) (F_71 30) (F_71 31) (F_71 32) (F_71 33) (F_71 34) (F_71 35) (F_71 36) (F_71 37) (F_71 38) (F_71 39) (F_71 40) (F_71 41) (F_71 42) (F_71 43) (F_71 49) (F_71 50) (F_71 51) (F_71 52) (F_71 53) (F_71 54) (F_71 55) (F_71 56) (F_71 57) (F_71 58) (F_71 59) (n_72 9) (n_72 11) (n_72 12) (n_72 44) (n_72 45) (n_72 46) (n_72 47) (n_72 48)) H → va_D A (w10 h0 X C (F_71 0) (F_71 1) (F_71 2) (F_71 3) (F_71 4) (F_71 5) (F_71 6) (F_71 7) (F_71 8) (F_71 10) f_111 (F_71 14) (F_71 15) (F_71 16) (F_71 17) (F_71 18) (F_71 19) (F_71 20) (F_71 21) (F_71 22) (F_71 23) (F_71 24) (F_71 25) (F_71 26) (F_71 27) (F_71 28) (F_71 29) (F_71 30) (F_71 31) (F_71 32) (F_71 33) (F_71 34) (F_71 35) (F_71 36) (F_71 37) (F_71 38) (F_71 39) (F_71 40) (F_71 41) (F_71 42) (F_71 43) (F_71 49) (F_71 50) (F_71 51) (F_71 52) (F_71 53) (F_71 54) (F_71 55) (F_71 56) (F_71 57) (F_71 58) (F_71 59) (n_72 9) (n_72 11) (n_72 12) (n_72 44) (n_72 45) (n_72 46) (n_72 47) (n_72 48)) → va_S A s.heap H locs → lv_has ls 4 [(2, .int x_110), (1, .int (n_33 11)), (0, .ref h0)] → W p l e (headSpec (.code yX10_oneBeat cX10_oneBeat 4 none :: gw) ({ frames := 6, cells := 0, slots := 0, locals := 143 })).room s m ([.ref h0] : List Value).toArray below meth c H locs 0 0 (MQ below (va_Qv (fun (u : (Nat → Nat → Int32) × (Nat → Int32)) => (n 11).toInt ≤ (u.2 11).toInt) (fun u t => va_P (dC, dI) vwCl (w10 h0 X C (u.1 0) (u.1 1) (u.1 2) (u.1 3) (u.1 4) (u.1 5) (u.1 6) (u.1 7) (u.1 8) (u.1 10) (u.1 13) (u.1 14) (u.1 15) (u.1 16) (u.1 17) (u.1 18) (u.1 19) (u.1 20) (u.1 21) (u.1 22) (u.1 23) (u.1 24) (u.1 25) (u.1 26) (u.1 27) (u.1 28) (u.1 29) (u.1 30) (u.1 31) (u.1 32) (u.1 33) (u.1 34) (u.1 35) (u.1 36) (u.1 37) (u.1 38) (u.1 39) (u.1 40) (u.1 41) (u.1 42) (u.1 43) (u.1 49) (u.1 50) (u.1 51) (u.1 52) (u.1 53) (u.1 54) (u.1 55) (u.1 56) (u.1 57) (u.1 58) (u.1 59) (u.2 9) (u.2 11) (u.2 12) (u.2 44) (u.2 45) (u.2 46) (u.2 47) (u.2 48)) t.heap ∧ va_D A (w10 h0 X C (u.1 0) (u.1 1) (u.1 2) (u.1 3) (u.1 4) (u.1 5) (u.1 6) (u.1 7) (u.1 8) (u.1 10) (u.1 13) (u.1 14) (u.1 15) (u.1 16) (u.1 17) (u.1 18) (u.1 19) (u.1 20) (u.1 21) (u.1 22) (u.1 23) (u.1 24) (u.1 25) (u.1 26) (u.1 27) (u.1 28) (u.1 29) (u.1 30) (u.1 31) (u.1 32) (u.1 33) (u.1 34) (u.1 35) (u.1 36) (u.1 37) (u.1 38) (u.1 39) (u.1 40) (u.1 41) (u.1 42) (u.1 43) (u.1 49) (u.1 50) (u.1 51) (u.1 52) (u.1 53) (u.1 54) (u.1 55) (u.1 56) (u.1 57) (u.1 58) (u.1 59) (u.2 9) (u.2 11) (u.2 12) (u.2 44) (u.2 45) (u.2 46) (u.2 47) (u.2 48)) ∧ I10 (kp + 400) u.1 u.2) A) ([.ref h0] : List Value).toArray s 0 0 A) (F0 m 157 ls []) := by
                intro fuel
                induction fuel with
                | zero => intro x_110 f_111 h_112 h_113 h_114 H locs ls hm; exact absurd hm (Nat.not_lt_zero _)
                | succ fuel_116 ih_115 =>
                  intro x_110 f_111 h_112 h_113 h_114 H locs ls hm_118 v_117 hP hD hS hl
                  refine lv_iload_n hx hb dX10_oneBeat_157 rfl (lv_at hl 0 rfl) ?_
                  refine lv_aload_n hx hb dX10_oneBeat_158 rfl (lv_at hl 2 rfl) ?_
                  refine va_get (D := (dC, dI)) (ci := 10) (v := .int (n_72 11)) (C := RX10) (T := TX10) (N := 60) hx hb hg gb_10 hown hK hP 0 rfl rfl 11 (by decide) (hg _ gm_fieldLink_RX10_176_ErrandGuildModel_runs_I_) (fun _ h9 => h9) rfl dX10_oneBeat_159 ?_
                  refine lv_icmp_ge (tgt := 196) hx hb dX10_oneBeat_162 (by decide) (fun c_119 => ?_) (fun c_119 => ?_)
                  · simp only [i_lt, i_le, i_eq] at c_119
                    exact W.vret hx hb hr (fun t ht hW => ⟨⟨((fun k => ([F_71 0, F_71 1, F_71 2, F_71 3, F_71 4, F_71 5, F_71 6, F_71 7, F_71 8, (fun _ => 0), F_71 10, (fun _ => 0), (fun _ => 0), f_111, F_71 14, F_71 15, F_71 16, F_71 17, F_71 18, F_71 19, F_71 20, F_71 21, F_71 22, F_71 23, F_71 24, F_71 25, F_71 26, F_71 27, F_71 28, F_71 29, F_71 30, F_71 31, F_71 32, F_71 33, F_71 34, F_71 35, F_71 36, F_71 37, F_71 38, F_71 39, F_71 40, F_71 41, F_71 42, F_71 43, (fun _ => 0), (fun _ => 0), (fun _ => 0), (fun _ => 0), (fun _ => 0), F_71 49, F_71 50, F_71 51, F_71 52, F_71 53, F_71 54, F_71 55, F_71 56, F_71 57, F_71 58, F_71 59] : List (Nat → Int32)).getD k (fun _ => 0)), n_72), rfl, (by show (n 11).toInt ≤ ((n_72 11)).toInt; omega), by rw [ht]; exact hP, hD, I10_mono (k := (kp + 2 * x_70.toInt)) ⟨b_80, b_81, h_112, b_83, b_84, b_85, b_86, b_87, b_88, b_89, b_90, b_91, i_92, i_93, i_94, i_95, i_96, i_97, i_98, j_99, h_113, j_101, j_102, j_103, j_104, j_105, j_106, h_114, j_108⟩ (by omega)⟩, hS.F ht⟩) hS.2.2 dX10_oneBeat_196
                  · simp only [i_lt, i_le, i_eq] at c_119
                    refine lv_aload_n hx hb dX10_oneBeat_165 rfl (lv_at hl 2 rfl) ?_
                    refine va_get (D := (dC, dI)) (ci := 10) (v := .ref (X 13)) (C := RX10) (T := TX10) (N := 60) hx hb hg gb_10 hown hK hP 0 rfl rfl 13 (by decide) (hg _ gm_fieldLink_RX10_45_ErrandGuildModel_state_AI_) (fun _ h9 => h9) rfl dX10_oneBeat_166 ?_
                    refine lv_iload_n hx hb dX10_oneBeat_169 rfl (lv_at hl 0 rfl) ?_
                    refine va_iald (f := f_111) hx hb hK hP 11 10 rfl rfl (vp_in_iff.mpr ⟨by omega, by omega⟩) dX10_oneBeat_170 ?_
                    refine lv_topi (fun z_120 ez_120 => ?_)
                    have qz_120 := congrArg Int32.toInt ez_120
                    have bz_120 := bd_at h_112 ez_120
                    refine lv_iconst (v := 2) hx hb dX10_oneBeat_171 (by decide) ?_
                    refine lv_icmp_ne (tgt := 190) hx hb dX10_oneBeat_172 (by decide) (fun c_121 => ?_) (fun c_121 => ?_)
                    · simp only [i_lt, i_le, i_eq, ti_2] at c_121
                      obtain ⟨y_122, ey_122⟩ : ∃ q : Int32, q = x_110 + (1) := ⟨_, rfl⟩
                      refine lv_iinc (v := y_122) (lv' := [(2, .int y_122), (1, .int (n_33 11)), (0, .ref h0)]) hx hb dX10_oneBeat_190 hl (k := 0) rfl (by rw [ey_122]; rfl) (by decide) rfl (fun ls hl => ?_)
                      have ty_122 : y_122.toInt = x_110.toInt + (1) := ar_add rfl ti_1 ey_122 (by omega)
                      refine lv_goto (tgt := 157) hx hb dX10_oneBeat_193 (by decide) ?_
                      exact ih_115 y_122 f_111 h_112 h_113 h_114 H locs ls (by omega) (by omega) hP hD hS (lv_sub hl [0, 1, 2] rfl)
                    · simp only [i_lt, i_le, i_eq, ti_2] at c_121
                      refine lv_aload_n hx hb dX10_oneBeat_175 rfl (lv_at hl 2 rfl) ?_
                      refine lv_iload_n hx hb dX10_oneBeat_176 rfl (lv_at hl 0 rfl) ?_
                      have hFc := free_all hD hS hA
                      refine va_calli (va_runV (As := [.int x_110]) (rest := []) ⟨hx, hb, hml, hown, hg⟩ (c_X10_areOver l dC dI (kp + 2 * x_70.toInt) h0 X C (fun k => ([F_71 0, F_71 1, F_71 2, F_71 3, F_71 4, F_71 5, F_71 6, F_71 7, F_71 8, (fun _ => 0), F_71 10, (fun _ => 0), (fun _ => 0), f_111, F_71 14, F_71 15, F_71 16, F_71 17, F_71 18, F_71 19, F_71 20, F_71 21, F_71 22, F_71 23, F_71 24, F_71 25, F_71 26, F_71 27, F_71 28, F_71 29, F_71 30, F_71 31, F_71 32, F_71 33, F_71 34, F_71 35, F_71 36, F_71 37, F_71 38, F_71 39, F_71 40, F_71 41, F_71 42, F_71 43, (fun _ => 0), (fun _ => 0), (fun _ => 0), (fun _ => 0), (fun _ => 0), F_71 49, F_71 50, F_71 51, F_71 52, F_71 53, F_71 54, F_71 55, F_71 56, F_71 57, F_71 58, F_71 59] : List (Nat → Int32)).getD k (fun _ => 0)) n_72 x_110 H.size ⟨b_80, b_81, h_112, b_83, b_84, b_85, b_86, b_87, b_88, b_89, b_90, b_91, i_92, i_93, i_94, i_95, i_96, i_97, i_98, j_99, h_113, j_101, j_102, j_103, j_104, j_105, j_106, h_114, j_108⟩ (by omega)) (cwV 1 hg (gw_V gm_methodLink_RX10_250_yX10_areOver gm_instanceMethod_yX10_areOver gm_selects_RX10_yX10_areOver_yX10_areOver gm_initialized_RX10 gm_code_yX10_areOver_cX10_areOver_4_some_boolean_) rfl rfl rfl (by decide +kernel) ⟨Nat.le_of_ble_eq_true rfl, Nat.le_of_ble_eq_true rfl⟩) ⟨fun a U g mk q => by obtain ⟨q0, q1, qP, qK, qD, qN⟩ := q; exact ⟨q0, q1, qP, va_K.moved (u := U) (U := U.calling g mk a) (Vm.Alike.refl U.vm) qK, qD, nx_same (u := U) (U := U.calling g mk a) rfl qN⟩, va_recv hK hP (ci := 10) (q0 := 0) rfl rfl, fun U hU hW => ⟨rfl, by rw [hU], by rw [hU]; exact hP, va_K.moved hW.alike hK, hD.weaken (fun _ _ _ _ => trivial), nx_warm hW hN⟩⟩ rfl rfl hl.1 rfl (lv_room (Nat.le_of_ble_eq_true rfl)) dX10_oneBeat_177 ⟨Nat.le_of_ble_eq_true rfl, Nat.le_of_ble_eq_true rfl⟩) hS (fun q _ h => hFc q h) hFc (fun r_123 u_124 t H1 locs ht hvm hw hB hz1 hk1 hS => ?_)
                      obtain ⟨hP, hD⟩ := hB
                      rw [ht] at hP
                      have hD := hD.weaken (fun k q _ h => hFc _ h)
                      generalize H1 = H at hP hS ⊢
                      have hP : va_P (dC, dI) vwCl (w10 h0 X C (F_71 0) (F_71 1) (F_71 2) (F_71 3) (F_71 4) (F_71 5) (F_71 6) (F_71 7) (F_71 8) (F_71 10) f_111 (F_71 14) (F_71 15) (F_71 16) (F_71 17) (F_71 18) (F_71 19) (F_71 20) (F_71 21) (F_71 22) (F_71 23) (F_71 24) (F_71 25) (F_71 26) (F_71 27) (F_71 28) (F_71 29) (F_71 30) (F_71 31) (F_71 32) (F_71 33) (F_71 34) (F_71 35) (F_71 36) (F_71 37) (F_71 38) (F_71 39) (F_71 40) (F_71 41) (F_71 42) (F_71 43) (F_71 49) (F_71 50) (F_71 51) (F_71 52) (F_71 53) (F_71 54) (F_71 55) (F_71 56) (F_71 57) (F_71 58) (F_71 59) (n_72 9) (n_72 11) (n_72 12) (n_72 44) (n_72 45) (n_72 46) (n_72 47) (n_72 48)) H := hP
                      have hD : va_D A (w10 h0 X C (F_71 0) (F_71 1) (F_71 2) (F_71 3) (F_71 4) (F_71 5) (F_71 6) (F_71 7) (F_71 8) (F_71 10) f_111 (F_71 14) (F_71 15) (F_71 16) (F_71 17) (F_71 18) (F_71 19) (F_71 20) (F_71 21) (F_71 22) (F_71 23) (F_71 24) (F_71 25) (F_71 26) (F_71 27) (F_71 28) (F_71 29) (F_71 30) (F_71 31) (F_71 32) (F_71 33) (F_71 34) (F_71 35) (F_71 36) (F_71 37) (F_71 38) (F_71 39) (F_71 40) (F_71 41) (F_71 42) (F_71 43) (F_71 49) (F_71 50) (F_71 51) (F_71 52) (F_71 53) (F_71 54) (F_71 55) (F_71 56) (F_71 57) (F_71 58) (F_71 59) (n_72 9) (n_72 11) (n_72 12) (n_72 44) (n_72 45) (n_72 46) (n_72 47) (n_72 48)) := hD
                      rcases hw with ⟨rfl, w_125⟩ | ⟨rfl, w_125⟩
                      · refine lv_if_eq (tgt := 190) hx hb dX10_oneBeat_180 (by decide) (fun c_126 => absurd c_126 (by decide)) (fun _ => ?_)
                        refine lv_aload_n hx hb dX10_oneBeat_183 rfl (lv_at hl 2 rfl) ?_
                        refine va_get (D := (dC, dI)) (ci := 10) (v := .ref (X 13)) (C := RX10) (T := TX10) (N := 60) hx hb hg gb_10 hown hK hP 0 rfl rfl 13 (by decide) (hg _ gm_fieldLink_RX10_45_ErrandGuildModel_state_AI_) (fun _ h9 => h9) rfl dX10_oneBeat_184 ?_
                        refine lv_iload_n hx hb dX10_oneBeat_187 rfl (lv_at hl 0 rfl) ?_
                        refine lv_iconst (v := 0) hx hb dX10_oneBeat_188 (by decide) ?_
                        refine va_iast (f := f_111) hx hb hK hP hD hS 11 10 rfl rfl (vp_in_iff.mpr ⟨by omega, by omega⟩) dX10_oneBeat_189 (fun H locs hP hD hS => ?_)
                        have hP : va_P (dC, dI) vwCl (w10 h0 X C (F_71 0) (F_71 1) (F_71 2) (F_71 3) (F_71 4) (F_71 5) (F_71 6) (F_71 7) (F_71 8) (F_71 10) (upd f_111 (Int32.toNatClampNeg x_110) 0) (F_71 14) (F_71 15) (F_71 16) (F_71 17) (F_71 18) (F_71 19) (F_71 20) (F_71 21) (F_71 22) (F_71 23) (F_71 24) (F_71 25) (F_71 26) (F_71 27) (F_71 28) (F_71 29) (F_71 30) (F_71 31) (F_71 32) (F_71 33) (F_71 34) (F_71 35) (F_71 36) (F_71 37) (F_71 38) (F_71 39) (F_71 40) (F_71 41) (F_71 42) (F_71 43) (F_71 49) (F_71 50) (F_71 51) (F_71 52) (F_71 53) (F_71 54) (F_71 55) (F_71 56) (F_71 57) (F_71 58) (F_71 59) (n_72 9) (n_72 11) (n_72 12) (n_72 44) (n_72 45) (n_72 46) (n_72 47) (n_72 48)) H := hP
                        have hD : va_D A (w10 h0 X C (F_71 0) (F_71 1) (F_71 2) (F_71 3) (F_71 4) (F_71 5) (F_71 6) (F_71 7) (F_71 8) (F_71 10) (upd f_111 (Int32.toNatClampNeg x_110) 0) (F_71 14) (F_71 15) (F_71 16) (F_71 17) (F_71 18) (F_71 19) (F_71 20) (F_71 21) (F_71 22) (F_71 23) (F_71 24) (F_71 25) (F_71 26) (F_71 27) (F_71 28) (F_71 29) (F_71 30) (F_71 31) (F_71 32) (F_71 33) (F_71 34) (F_71 35) (F_71 36) (F_71 37) (F_71 38) (F_71 39) (F_71 40) (F_71 41) (F_71 42) (F_71 43) (F_71 49) (F_71 50) (F_71 51) (F_71 52) (F_71 53) (F_71 54) (F_71 55) (F_71 56) (F_71 57) (F_71 58) (F_71 59) (n_72 9) (n_72 11) (n_72 12) (n_72 44) (n_72 45) (n_72 46) (n_72 47) (n_72 48)) := hD
                        have b_127 := bd_upd h_112 (Int32.toNatClampNeg x_110) (x := 0) (by have t_ := ti_0; omega) (by have t_ := ti_0; omega)
                        have j_128 : J1 (upd f_111 (Int32.toNatClampNeg x_110) 0) (F_71 18) := J1_sa h_113 (Int32.toNatClampNeg x_110) (fun h => by have t_0 := ti_0; omega)
                        have j_129 : J8 (F_71 32) (upd f_111 (Int32.toNatClampNeg x_110) 0) := J8_sa h_114 (Int32.toNatClampNeg x_110) (Or.inl (Classical.byContradiction (fun h => by have h2 := h_114 (Int32.toNatClampNeg x_110) h; omega)))
                        obtain ⟨y_130, ey_130⟩ : ∃ q : Int32, q = x_110 + (1) := ⟨_, rfl⟩
                        refine lv_iinc (v := y_130) (lv' := [(2, .int y_130), (1, .int (n_33 11)), (0, .ref h0)]) hx hb dX10_oneBeat_190 hl (k := 0) rfl (by rw [ey_130]; rfl) (by decide) rfl (fun ls hl => ?_)
                        have ty_130 : y_130.toInt = x_110.toInt + (1) := ar_add rfl ti_1 ey_130 (by omega)
                        refine lv_goto (tgt := 157) hx hb dX10_oneBeat_193 (by decide) ?_
                        exact ih_115 y_130 (upd f_111 (Int32.toNatClampNeg x_110) 0) b_127 j_128 j_129 H locs ls (by omega) (by omega) hP hD hS (lv_sub hl [0, 1, 2] rfl)
                      · refine lv_if_eq (tgt := 190) hx hb dX10_oneBeat_180 (by decide) (fun _ => ?_) (fun c_131 => absurd c_131 (by decide))
                        obtain ⟨y_132, ey_132⟩ : ∃ q : Int32, q = x_110 + (1) := ⟨_, rfl⟩
                        refine lv_iinc (v := y_132) (lv' := [(2, .int y_132), (1, .int (n_33 11)), (0, .ref h0)]) hx hb dX10_oneBeat_190 hl (k := 0) rfl (by rw [ey_132]; rfl) (by decide) rfl (fun ls hl => ?_)
                        have ty_132 : y_132.toInt = x_110.toInt + (1) := ar_add rfl ti_1 ey_132 (by omega)
                        refine lv_goto (tgt := 157) hx hb dX10_oneBeat_193 (by decide) ?_
                        exact ih_115 y_132 f_111 h_112 h_113 h_114 H locs ls (by omega) (by omega) hP hD hS (lv_sub hl [0, 1, 2] rfl)
              exact L157 _ (0) (F_71 13) b_82 j_100 j_107 _ _ _ (Nat.lt_succ_self _) (by have t_0 := ti_0; omega) hP hD hS (lv_sub hl [0, 1, 2] rfl)
            · simp only [i_lt, i_le, i_eq] at c_109
              refine lv_aload_n hx hb dX10_oneBeat_134 rfl (lv_at hl 2 rfl) ?_
              refine va_get (D := (dC, dI)) (ci := 10) (v := .ref (X 13)) (C := RX10) (T := TX10) (N := 60) hx hb hg gb_10 hown hK hP 0 rfl rfl 13 (by decide) (hg _ gm_fieldLink_RX10_45_ErrandGuildModel_state_AI_) (fun _ h9 => h9) rfl dX10_oneBeat_135 ?_
              refine lv_iload_n hx hb dX10_oneBeat_138 rfl (lv_at hl 0 rfl) ?_
              refine va_iald (f := F_71 13) hx hb hK hP 11 10 rfl rfl (vp_in_iff.mpr ⟨by omega, by omega⟩) dX10_oneBeat_139 ?_
              refine lv_topi (fun z_133 ez_133 => ?_)
              have qz_133 := congrArg Int32.toInt ez_133
              have bz_133 := bd_at b_82 ez_133
              refine lv_iconst (v := 1) hx hb dX10_oneBeat_140 (by decide) ?_
              refine lv_icmp_ne (tgt := 149) hx hb dX10_oneBeat_141 (by decide) (fun c_134 => ?_) (fun c_134 => ?_)
              · simp only [i_lt, i_le, i_eq, ti_1] at c_134
                obtain ⟨y_135, ey_135⟩ : ∃ q : Int32, q = x_70 + (1) := ⟨_, rfl⟩
                refine lv_iinc (v := y_135) (lv' := [(2, .int y_135), (1, .int (n_33 11)), (0, .ref h0)]) hx hb dX10_oneBeat_149 hl (k := 0) rfl (by rw [ey_135]; rfl) (by decide) rfl (fun ls hl => ?_)
                have ty_135 : y_135.toInt = x_70.toInt + (1) := ar_add rfl ti_1 ey_135 (by omega)
                refine lv_goto (tgt := 129) hx hb dX10_oneBeat_152 (by decide) ?_
                exact ih_74 y_135 F_71 n_72 (I10_mono (k := (kp + 2 * x_70.toInt)) ⟨b_80, b_81, b_82, b_83, b_84, b_85, b_86, b_87, b_88, b_89, b_90, b_91, i_92, i_93, i_94, i_95, i_96, i_97, i_98, j_99, j_100, j_101, j_102, j_103, j_104, j_105, j_106, j_107, j_108⟩ (by omega)) H locs ls (by omega) (by omega) (by show (n_33 11).toInt ≤ (n_72 11).toInt; omega) (by show (n 11).toInt ≤ (n_72 11).toInt; omega) hP hD hS (lv_sub hl [0, 1, 2] rfl)
              · simp only [i_lt, i_le, i_eq, ti_1] at c_134
                refine lv_aload_n hx hb dX10_oneBeat_144 rfl (lv_at hl 2 rfl) ?_
                refine lv_iload_n hx hb dX10_oneBeat_145 rfl (lv_at hl 0 rfl) ?_
                have hFc := free_all hD hS hA
                refine va_callv (va_runV (As := [.int x_70]) (rest := []) ⟨hx, hb, hml, hown, hg⟩ (c_X10_turn l dC dI (kp + 2 * x_70.toInt) h0 X C F_71 n_72 x_70 H.size ⟨b_80, b_81, b_82, b_83, b_84, b_85, b_86, b_87, b_88, b_89, b_90, b_91, i_92, i_93, i_94, i_95, i_96, i_97, i_98, j_99, j_100, j_101, j_102, j_103, j_104, j_105, j_106, j_107, j_108⟩ (by omega) (by show x_70.toInt < ((n_72 11)).toInt; omega) (by show ((F_71 13) (Int32.toNatClampNeg x_70)).toInt = 1; omega) (by omega)) (cwV 1 hg (gw_V gm_methodLink_RX10_266_yX10_turn gm_instanceMethod_yX10_turn gm_selects_RX10_yX10_turn_yX10_turn gm_initialized_RX10 gm_code_yX10_turn_cX10_turn_2_none) rfl rfl rfl (by decide +kernel) ⟨Nat.le_of_ble_eq_true rfl, Nat.le_of_ble_eq_true rfl⟩) ⟨fun a U g mk q => by obtain ⟨q0, q1, qP, qK, qD, qN⟩ := q; exact ⟨q0, q1, qP, va_K.moved (u := U) (U := U.calling g mk a) (Vm.Alike.refl U.vm) qK, qD, nx_same (u := U) (U := U.calling g mk a) rfl qN⟩, va_recv hK hP (ci := 10) (q0 := 0) rfl rfl, fun U hU hW => ⟨rfl, by rw [hU], by rw [hU]; exact hP, va_K.moved hW.alike hK, hD.weaken (fun _ _ _ _ => trivial), nx_warm hW hN⟩⟩ rfl rfl hl.1 rfl (lv_room (Nat.le_of_ble_eq_true rfl)) dX10_oneBeat_146 ⟨Nat.le_of_ble_eq_true rfl, Nat.le_of_ble_eq_true rfl⟩) hS (fun q _ h => hFc q h) hFc (fun u_137 t H1 locs ht hvm hw hB hz1 hk1 hS => ?_)
                obtain ⟨F_138, n_139⟩ := u_137
                obtain ⟨hP, hD, hI_140⟩ := hB
                have hI_140 : I10 ((kp + 2 * x_70.toInt) + 2) F_138 n_139 := hI_140
                obtain ⟨b_141, b_142, b_143, b_144, b_145, b_146, b_147, b_148, b_149, b_150, b_151, b_152, i_153, i_154, i_155, i_156, i_157, i_158, i_159, j_160, j_161, j_162, j_163, j_164, j_165, j_166, j_167, j_168, j_169⟩ := id hI_140
                rw [ht] at hP
                have hD := hD.weaken (fun k q _ h => hFc _ h)
                generalize H1 = H at hP hS ⊢
                have hP : va_P (dC, dI) vwCl (w10 h0 X C (F_138 0) (F_138 1) (F_138 2) (F_138 3) (F_138 4) (F_138 5) (F_138 6) (F_138 7) (F_138 8) (F_138 10) (F_138 13) (F_138 14) (F_138 15) (F_138 16) (F_138 17) (F_138 18) (F_138 19) (F_138 20) (F_138 21) (F_138 22) (F_138 23) (F_138 24) (F_138 25) (F_138 26) (F_138 27) (F_138 28) (F_138 29) (F_138 30) (F_138 31) (F_138 32) (F_138 33) (F_138 34) (F_138 35) (F_138 36) (F_138 37) (F_138 38) (F_138 39) (F_138 40) (F_138 41) (F_138 42) (F_138 43) (F_138 49) (F_138 50) (F_138 51) (F_138 52) (F_138 53) (F_138 54) (F_138 55) (F_138 56) (F_138 57) (F_138 58) (F_138 59) (n_139 9) (n_139 11) (n_139 12) (n_139 44) (n_139 45) (n_139 46) (n_139 47) (n_139 48)) H := hP
                have hD : va_D A (w10 h0 X C (F_138 0) (F_138 1) (F_138 2) (F_138 3) (F_138 4) (F_138 5) (F_138 6) (F_138 7) (F_138 8) (F_138 10) (F_138 13) (F_138 14) (F_138 15) (F_138 16) (F_138 17) (F_138 18) (F_138 19) (F_138 20) (F_138 21) (F_138 22) (F_138 23) (F_138 24) (F_138 25) (F_138 26) (F_138 27) (F_138 28) (F_138 29) (F_138 30) (F_138 31) (F_138 32) (F_138 33) (F_138 34) (F_138 35) (F_138 36) (F_138 37) (F_138 38) (F_138 39) (F_138 40) (F_138 41) (F_138 42) (F_138 43) (F_138 49) (F_138 50) (F_138 51) (F_138 52) (F_138 53) (F_138 54) (F_138 55) (F_138 56) (F_138 57) (F_138 58) (F_138 59) (n_139 9) (n_139 11) (n_139 12) (n_139 44) (n_139 45) (n_139 46) (n_139 47) (n_139 48)) := hD
                have w_170 : ((n_72 11)).toInt ≤ (n_139 11).toInt := hw
                try simp only [upd_eq] at w_170
                obtain ⟨y_171, ey_171⟩ : ∃ q : Int32, q = x_70 + (1) := ⟨_, rfl⟩
                refine lv_iinc (v := y_171) (lv' := [(2, .int y_171), (1, .int (n_33 11)), (0, .ref h0)]) hx hb dX10_oneBeat_149 hl (k := 0) rfl (by rw [ey_171]; rfl) (by decide) rfl (fun ls hl => ?_)
                have ty_171 : y_171.toInt = x_70.toInt + (1) := ar_add rfl ti_1 ey_171 (by omega)
                refine lv_goto (tgt := 129) hx hb dX10_oneBeat_152 (by decide) ?_
                exact ih_74 y_171 F_138 n_139 (I10_mono (k := ((kp + 2 * x_70.toInt) + 2)) ⟨b_141, b_142, b_143, b_144, b_145, b_146, b_147, b_148, b_149, b_150, b_151, b_152, i_153, i_154, i_155, i_156, i_157, i_158, i_159, j_160, j_161, j_162, j_163, j_164, j_165, j_166, j_167, j_168, j_169⟩ (by omega)) H locs ls (by omega) (by omega) (by show (n_33 11).toInt ≤ (n_139 11).toInt; omega) (by show (n 11).toInt ≤ (n_139 11).toInt; omega) hP hD hS (lv_sub hl [0, 1, 2] rfl)
        exact L129 _ (0) F_32 n_33 (I10_mono (k := kp) ⟨b_40, b_41, b_42, b_43, b_44, b_45, b_46, b_47, b_48, b_49, b_50, b_51, i_52, i_53, i_54, i_55, i_56, i_57, i_58, j_59, j_60, j_61, j_62, j_63, j_64, j_65, j_66, j_67, j_68⟩ (by have t_0 := ti_0; omega)) _ _ _ (Nat.lt_succ_self _) (by have t_0 := ti_0; omega) (by have t_0 := ti_0; show (n_33 11).toInt ≤ (n_33 11).toInt; omega) (by have t_0 := ti_0; show (n 11).toInt ≤ (n_33 11).toInt; omega) hP hD hS (lv_sub hl [0, 1, 2] rfl)
      · simp only [i_lt, i_le, i_eq] at c_69
        refine lv_aload_n hx hb dX10_oneBeat_20 rfl (lv_at hl 1 rfl) ?_
        refine va_get (D := (dC, dI)) (ci := 10) (v := .ref (X 13)) (C := RX10) (T := TX10) (N := 60) hx hb hg gb_10 hown hK hP 0 rfl rfl 13 (by decide) (hg _ gm_fieldLink_RX10_45_ErrandGuildModel_state_AI_) (fun _ h9 => h9) rfl dX10_oneBeat_21 ?_
        refine lv_iload_n hx hb dX10_oneBeat_24 rfl (lv_at hl 0 rfl) ?_
        refine va_iald (f := F_32 13) hx hb hK hP 11 10 rfl rfl (vp_in_iff.mpr ⟨by omega, by omega⟩) dX10_oneBeat_25 ?_
        refine lv_topi (fun z_172 ez_172 => ?_)
        have qz_172 := congrArg Int32.toInt ez_172
        have bz_172 := bd_at b_42 ez_172
        refine lv_if_ne (tgt := 36) hx hb dX10_oneBeat_26 (by decide) (fun c_173 => ?_) (fun c_173 => ?_)
        · simp only [i_lt, i_le, i_eq, ti_0] at c_173
          refine lv_iconst (v := -1) hx hb dX10_oneBeat_36 (by decide) ?_
          refine lv_istore_n (lv' := [(2, .int (-1)), (1, .int x_31), (0, .ref h0)]) hx hb dX10_oneBeat_37 rfl hl (by decide) rfl (fun ls hl => ?_)
          refine lv_iload_n hx hb dX10_oneBeat_38 rfl (lv_at hl 0 rfl) ?_
          refine lv_iconst (v := -1) hx hb dX10_oneBeat_39 (by decide) ?_
          refine lv_icmp_ne (tgt := 46) hx hb dX10_oneBeat_40 (by decide) (fun c_174 => absurd c_174 (by decide)) (fun _ => ?_)
          refine lv_goto (tgt := 116) hx hb dX10_oneBeat_43 (by decide) ?_
          obtain ⟨y_175, ey_175⟩ : ∃ q : Int32, q = x_31 + (1) := ⟨_, rfl⟩
          refine lv_iinc (v := y_175) (lv' := [(1, .int y_175), (2, .int (-1)), (0, .ref h0)]) hx hb dX10_oneBeat_116 hl (k := 1) rfl (by rw [ey_175]; rfl) (by decide) rfl (fun ls hl => ?_)
          have ty_175 : y_175.toInt = x_31.toInt + (1) := ar_add rfl ti_1 ey_175 (by omega)
          refine lv_goto (tgt := 12) hx hb dX10_oneBeat_119 (by decide) ?_
          exact ih_35 y_175 F_32 n_33 (I10_mono (k := kp) ⟨b_40, b_41, b_42, b_43, b_44, b_45, b_46, b_47, b_48, b_49, b_50, b_51, i_52, i_53, i_54, i_55, i_56, i_57, i_58, j_59, j_60, j_61, j_62, j_63, j_64, j_65, j_66, j_67, j_68⟩ (by omega)) H locs ls (by omega) (by omega) (by show (n 11).toInt ≤ (n_33 11).toInt; omega) hP hD hS (lv_sub hl [0, 2] rfl)
        · simp only [i_lt, i_le, i_eq, ti_0] at c_173
          refine lv_aload_n hx hb dX10_oneBeat_29 rfl (lv_at hl 1 rfl) ?_
          have hFc := free_all hD hS hA
          refine va_calli (va_runV (As := []) (rest := []) ⟨hx, hb, hml, hown, hg⟩ (c_X10_free l dC dI kp h0 X C F_32 n_33 H.size ⟨b_40, b_41, b_42, b_43, b_44, b_45, b_46, b_47, b_48, b_49, b_50, b_51, i_52, i_53, i_54, i_55, i_56, i_57, i_58, j_59, j_60, j_61, j_62, j_63, j_64, j_65, j_66, j_67, j_68⟩) (cwV 0 hg (gw_V gm_methodLink_RX10_262_yX10_free gm_instanceMethod_yX10_free gm_selects_RX10_yX10_free_yX10_free gm_initialized_RX10 gm_code_yX10_free_cX10_free_2_some_int_) rfl rfl rfl (by decide +kernel) ⟨Nat.le_of_ble_eq_true rfl, Nat.le_of_ble_eq_true rfl⟩) ⟨fun a U g mk q => by obtain ⟨q0, q1, qP, qK, qD, qN⟩ := q; exact ⟨q0, q1, qP, va_K.moved (u := U) (U := U.calling g mk a) (Vm.Alike.refl U.vm) qK, qD, nx_same (u := U) (U := U.calling g mk a) rfl qN⟩, va_recv hK hP (ci := 10) (q0 := 0) rfl rfl, fun U hU hW => ⟨rfl, by rw [hU], by rw [hU]; exact hP, va_K.moved hW.alike hK, hD.weaken (fun _ _ _ _ => trivial), nx_warm hW hN⟩⟩ rfl rfl hl.1 rfl (lv_room (Nat.le_of_ble_eq_true rfl)) dX10_oneBeat_30 ⟨Nat.le_of_ble_eq_true rfl, Nat.le_of_ble_eq_true rfl⟩) hS (fun q _ h => hFc q h) hFc (fun r_176 u_177 t H1 locs ht hvm hw hB hz1 hk1 hS => ?_)
          obtain ⟨hP, hD⟩ := hB
          rw [ht] at hP
          have hD := hD.weaken (fun k q _ h => hFc _ h)
          generalize H1 = H at hP hS ⊢
          have hP : va_P (dC, dI) vwCl (w10 h0 X C (F_32 0) (F_32 1) (F_32 2) (F_32 3) (F_32 4) (F_32 5) (F_32 6) (F_32 7) (F_32 8) (F_32 10) (F_32 13) (F_32 14) (F_32 15) (F_32 16) (F_32 17) (F_32 18) (F_32 19) (F_32 20) (F_32 21) (F_32 22) (F_32 23) (F_32 24) (F_32 25) (F_32 26) (F_32 27) (F_32 28) (F_32 29) (F_32 30) (F_32 31) (F_32 32) (F_32 33) (F_32 34) (F_32 35) (F_32 36) (F_32 37) (F_32 38) (F_32 39) (F_32 40) (F_32 41) (F_32 42) (F_32 43) (F_32 49) (F_32 50) (F_32 51) (F_32 52) (F_32 53) (F_32 54) (F_32 55) (F_32 56) (F_32 57) (F_32 58) (F_32 59) (n_33 9) (n_33 11) (n_33 12) (n_33 44) (n_33 45) (n_33 46) (n_33 47) (n_33 48)) H := hP
          have hD : va_D A (w10 h0 X C (F_32 0) (F_32 1) (F_32 2) (F_32 3) (F_32 4) (F_32 5) (F_32 6) (F_32 7) (F_32 8) (F_32 10) (F_32 13) (F_32 14) (F_32 15) (F_32 16) (F_32 17) (F_32 18) (F_32 19) (F_32 20) (F_32 21) (F_32 22) (F_32 23) (F_32 24) (F_32 25) (F_32 26) (F_32 27) (F_32 28) (F_32 29) (F_32 30) (F_32 31) (F_32 32) (F_32 33) (F_32 34) (F_32 35) (F_32 36) (F_32 37) (F_32 38) (F_32 39) (F_32 40) (F_32 41) (F_32 42) (F_32 43) (F_32 49) (F_32 50) (F_32 51) (F_32 52) (F_32 53) (F_32 54) (F_32 55) (F_32 56) (F_32 57) (F_32 58) (F_32 59) (n_33 9) (n_33 11) (n_33 12) (n_33 44) (n_33 45) (n_33 46) (n_33 47) (n_33 48)) := hD
          have w_178 : -1 ≤ r_176.toInt ∧ r_176.toInt ≤ 5 := hw
          try simp only [upd_eq] at w_178
          refine lv_goto (tgt := 37) hx hb dX10_oneBeat_33 (by decide) ?_
          refine lv_istore_n (lv' := [(2, .int r_176), (1, .int x_31), (0, .ref h0)]) hx hb dX10_oneBeat_37 rfl hl (by decide) rfl (fun ls hl => ?_)
          refine lv_iload_n hx hb dX10_oneBeat_38 rfl (lv_at hl 0 rfl) ?_
          refine lv_iconst (v := -1) hx hb dX10_oneBeat_39 (by decide) ?_
          refine lv_icmp_ne (tgt := 46) hx hb dX10_oneBeat_40 (by decide) (fun c_179 => ?_) (fun c_179 => ?_)
          · simp only [i_lt, i_le, i_eq, ti_m1] at c_179
            refine lv_aload_n hx hb dX10_oneBeat_46 rfl (lv_at hl 2 rfl) ?_
            refine va_get (D := (dC, dI)) (ci := 10) (v := .ref (X 13)) (C := RX10) (T := TX10) (N := 60) hx hb hg gb_10 hown hK hP 0 rfl rfl 13 (by decide) (hg _ gm_fieldLink_RX10_45_ErrandGuildModel_state_AI_) (fun _ h9 => h9) rfl dX10_oneBeat_47 ?_
            refine lv_iload_n hx hb dX10_oneBeat_50 rfl (lv_at hl 1 rfl) ?_
            refine lv_iconst (v := 1) hx hb dX10_oneBeat_51 (by decide) ?_
            refine va_iast (f := F_32 13) hx hb hK hP hD hS 11 10 rfl rfl (vp_in_iff.mpr ⟨by omega, by omega⟩) dX10_oneBeat_52 (fun H locs hP hD hS => ?_)
            have hP : va_P (dC, dI) vwCl (w10 h0 X C (F_32 0) (F_32 1) (F_32 2) (F_32 3) (F_32 4) (F_32 5) (F_32 6) (F_32 7) (F_32 8) (F_32 10) (upd (F_32 13) (Int32.toNatClampNeg x_31) 1) (F_32 14) (F_32 15) (F_32 16) (F_32 17) (F_32 18) (F_32 19) (F_32 20) (F_32 21) (F_32 22) (F_32 23) (F_32 24) (F_32 25) (F_32 26) (F_32 27) (F_32 28) (F_32 29) (F_32 30) (F_32 31) (F_32 32) (F_32 33) (F_32 34) (F_32 35) (F_32 36) (F_32 37) (F_32 38) (F_32 39) (F_32 40) (F_32 41) (F_32 42) (F_32 43) (F_32 49) (F_32 50) (F_32 51) (F_32 52) (F_32 53) (F_32 54) (F_32 55) (F_32 56) (F_32 57) (F_32 58) (F_32 59) (n_33 9) (n_33 11) (n_33 12) (n_33 44) (n_33 45) (n_33 46) (n_33 47) (n_33 48)) H := hP
            have hD : va_D A (w10 h0 X C (F_32 0) (F_32 1) (F_32 2) (F_32 3) (F_32 4) (F_32 5) (F_32 6) (F_32 7) (F_32 8) (F_32 10) (upd (F_32 13) (Int32.toNatClampNeg x_31) 1) (F_32 14) (F_32 15) (F_32 16) (F_32 17) (F_32 18) (F_32 19) (F_32 20) (F_32 21) (F_32 22) (F_32 23) (F_32 24) (F_32 25) (F_32 26) (F_32 27) (F_32 28) (F_32 29) (F_32 30) (F_32 31) (F_32 32) (F_32 33) (F_32 34) (F_32 35) (F_32 36) (F_32 37) (F_32 38) (F_32 39) (F_32 40) (F_32 41) (F_32 42) (F_32 43) (F_32 49) (F_32 50) (F_32 51) (F_32 52) (F_32 53) (F_32 54) (F_32 55) (F_32 56) (F_32 57) (F_32 58) (F_32 59) (n_33 9) (n_33 11) (n_33 12) (n_33 44) (n_33 45) (n_33 46) (n_33 47) (n_33 48)) := hD
            have b_180 := bd_upd b_42 (Int32.toNatClampNeg x_31) (x := 1) (by have t_ := ti_1; omega) (by have t_ := ti_1; omega)
            have j_181 : J8 (F_32 32) (upd (F_32 13) (Int32.toNatClampNeg x_31) 1) := J8_sa j_67 (Int32.toNatClampNeg x_31) (Or.inl (Classical.byContradiction (fun h => by have h2 := j_67 (Int32.toNatClampNeg x_31) h; omega)))
            refine lv_aload_n hx hb dX10_oneBeat_53 rfl (lv_at hl 2 rfl) ?_
            refine va_get (D := (dC, dI)) (ci := 10) (v := .ref (X 18)) (C := RX10) (T := TX10) (N := 60) hx hb hg gb_10 hown hK hP 0 rfl rfl 18 (by decide) (hg _ gm_fieldLink_RX10_60_ErrandGuildModel_thread_AI_) (fun _ h9 => h9) rfl dX10_oneBeat_54 ?_
            refine lv_iload_n hx hb dX10_oneBeat_57 rfl (lv_at hl 1 rfl) ?_
            refine lv_iload_n hx hb dX10_oneBeat_58 rfl (lv_at hl 0 rfl) ?_
            refine va_iast (f := F_32 18) hx hb hK hP hD hS 16 15 rfl rfl (vp_in_iff.mpr ⟨by omega, by omega⟩) dX10_oneBeat_59 (fun H locs hP hD hS => ?_)
            have hP : va_P (dC, dI) vwCl (w10 h0 X C (F_32 0) (F_32 1) (F_32 2) (F_32 3) (F_32 4) (F_32 5) (F_32 6) (F_32 7) (F_32 8) (F_32 10) (upd (F_32 13) (Int32.toNatClampNeg x_31) 1) (F_32 14) (F_32 15) (F_32 16) (F_32 17) (upd (F_32 18) (Int32.toNatClampNeg x_31) r_176) (F_32 19) (F_32 20) (F_32 21) (F_32 22) (F_32 23) (F_32 24) (F_32 25) (F_32 26) (F_32 27) (F_32 28) (F_32 29) (F_32 30) (F_32 31) (F_32 32) (F_32 33) (F_32 34) (F_32 35) (F_32 36) (F_32 37) (F_32 38) (F_32 39) (F_32 40) (F_32 41) (F_32 42) (F_32 43) (F_32 49) (F_32 50) (F_32 51) (F_32 52) (F_32 53) (F_32 54) (F_32 55) (F_32 56) (F_32 57) (F_32 58) (F_32 59) (n_33 9) (n_33 11) (n_33 12) (n_33 44) (n_33 45) (n_33 46) (n_33 47) (n_33 48)) H := hP
            have hD : va_D A (w10 h0 X C (F_32 0) (F_32 1) (F_32 2) (F_32 3) (F_32 4) (F_32 5) (F_32 6) (F_32 7) (F_32 8) (F_32 10) (upd (F_32 13) (Int32.toNatClampNeg x_31) 1) (F_32 14) (F_32 15) (F_32 16) (F_32 17) (upd (F_32 18) (Int32.toNatClampNeg x_31) r_176) (F_32 19) (F_32 20) (F_32 21) (F_32 22) (F_32 23) (F_32 24) (F_32 25) (F_32 26) (F_32 27) (F_32 28) (F_32 29) (F_32 30) (F_32 31) (F_32 32) (F_32 33) (F_32 34) (F_32 35) (F_32 36) (F_32 37) (F_32 38) (F_32 39) (F_32 40) (F_32 41) (F_32 42) (F_32 43) (F_32 49) (F_32 50) (F_32 51) (F_32 52) (F_32 53) (F_32 54) (F_32 55) (F_32 56) (F_32 57) (F_32 58) (F_32 59) (n_33 9) (n_33 11) (n_33 12) (n_33 44) (n_33 45) (n_33 46) (n_33 47) (n_33 48)) := hD
            have b_182 := bd_upd b_46 (Int32.toNatClampNeg x_31) (x := r_176) (by omega) (by omega)
            have j_183 : J1 (upd (F_32 13) (Int32.toNatClampNeg x_31) 1) (upd (F_32 18) (Int32.toNatClampNeg x_31) r_176) := J1_both j_60 (Int32.toNatClampNeg x_31) (fun h => by omega)
            refine lv_aload_n hx hb dX10_oneBeat_60 rfl (lv_at hl 2 rfl) ?_
            refine va_get (D := (dC, dI)) (ci := 10) (v := .ref (X 10)) (C := RX10) (T := TX10) (N := 60) hx hb hg gb_10 hown hK hP 0 rfl rfl 10 (by decide) (hg _ gm_fieldLink_RX10_42_ErrandGuildModel_onThread_AI_) (fun _ h9 => h9) rfl dX10_oneBeat_61 ?_
            refine lv_iload_n hx hb dX10_oneBeat_64 rfl (lv_at hl 0 rfl) ?_
            refine lv_iload_n hx hb dX10_oneBeat_65 rfl (lv_at hl 1 rfl) ?_
            refine va_iast (f := F_32 10) hx hb hK hP hD hS 10 9 rfl rfl (vp_in_iff.mpr ⟨by omega, by omega⟩) dX10_oneBeat_66 (fun H locs hP hD hS => ?_)
            have hP : va_P (dC, dI) vwCl (w10 h0 X C (F_32 0) (F_32 1) (F_32 2) (F_32 3) (F_32 4) (F_32 5) (F_32 6) (F_32 7) (F_32 8) (upd (F_32 10) (Int32.toNatClampNeg r_176) x_31) (upd (F_32 13) (Int32.toNatClampNeg x_31) 1) (F_32 14) (F_32 15) (F_32 16) (F_32 17) (upd (F_32 18) (Int32.toNatClampNeg x_31) r_176) (F_32 19) (F_32 20) (F_32 21) (F_32 22) (F_32 23) (F_32 24) (F_32 25) (F_32 26) (F_32 27) (F_32 28) (F_32 29) (F_32 30) (F_32 31) (F_32 32) (F_32 33) (F_32 34) (F_32 35) (F_32 36) (F_32 37) (F_32 38) (F_32 39) (F_32 40) (F_32 41) (F_32 42) (F_32 43) (F_32 49) (F_32 50) (F_32 51) (F_32 52) (F_32 53) (F_32 54) (F_32 55) (F_32 56) (F_32 57) (F_32 58) (F_32 59) (n_33 9) (n_33 11) (n_33 12) (n_33 44) (n_33 45) (n_33 46) (n_33 47) (n_33 48)) H := hP
            have hD : va_D A (w10 h0 X C (F_32 0) (F_32 1) (F_32 2) (F_32 3) (F_32 4) (F_32 5) (F_32 6) (F_32 7) (F_32 8) (upd (F_32 10) (Int32.toNatClampNeg r_176) x_31) (upd (F_32 13) (Int32.toNatClampNeg x_31) 1) (F_32 14) (F_32 15) (F_32 16) (F_32 17) (upd (F_32 18) (Int32.toNatClampNeg x_31) r_176) (F_32 19) (F_32 20) (F_32 21) (F_32 22) (F_32 23) (F_32 24) (F_32 25) (F_32 26) (F_32 27) (F_32 28) (F_32 29) (F_32 30) (F_32 31) (F_32 32) (F_32 33) (F_32 34) (F_32 35) (F_32 36) (F_32 37) (F_32 38) (F_32 39) (F_32 40) (F_32 41) (F_32 42) (F_32 43) (F_32 49) (F_32 50) (F_32 51) (F_32 52) (F_32 53) (F_32 54) (F_32 55) (F_32 56) (F_32 57) (F_32 58) (F_32 59) (n_33 9) (n_33 11) (n_33 12) (n_33 44) (n_33 45) (n_33 46) (n_33 47) (n_33 48)) := hD
            refine lv_aload_n hx hb dX10_oneBeat_67 rfl (lv_at hl 2 rfl) ?_
            refine va_get (D := (dC, dI)) (ci := 10) (v := .ref (X 23)) (C := RX10) (T := TX10) (N := 60) hx hb hg gb_10 hown hK hP 0 rfl rfl 23 (by decide) (hg _ gm_fieldLink_RX10_75_ErrandGuildModel_came_AI_) (fun _ h9 => h9) rfl dX10_oneBeat_68 ?_
            refine lv_iload_n hx hb dX10_oneBeat_71 rfl (lv_at hl 1 rfl) ?_
            refine lv_aload_n hx hb dX10_oneBeat_72 rfl (lv_at hl 2 rfl) ?_
            refine va_get (D := (dC, dI)) (ci := 10) (v := .ref (X 23)) (C := RX10) (T := TX10) (N := 60) hx hb hg gb_10 hown hK hP 0 rfl rfl 23 (by decide) (hg _ gm_fieldLink_RX10_75_ErrandGuildModel_came_AI_) (fun _ h9 => h9) rfl dX10_oneBeat_73 ?_
            refine lv_iload_n hx hb dX10_oneBeat_76 rfl (lv_at hl 1 rfl) ?_
            refine va_iald (f := F_32 23) hx hb hK hP 21 20 rfl rfl (vp_in_iff.mpr ⟨by omega, by omega⟩) dX10_oneBeat_77 ?_
            refine lv_topi (fun z_184 ez_184 => ?_)
            have qz_184 := congrArg Int32.toInt ez_184
            refine lv_iconst (v := 1) hx hb dX10_oneBeat_78 (by decide) ?_
            refine lv_iadd hx hb dX10_oneBeat_79 ?_
            refine lv_topi (fun z_185 ez_185 => ?_)
            refine va_iast (f := F_32 23) hx hb hK hP hD hS 21 20 rfl rfl (vp_in_iff.mpr ⟨by omega, by omega⟩) dX10_oneBeat_80 (fun H locs hP hD hS => ?_)
            have hP : va_P (dC, dI) vwCl (w10 h0 X C (F_32 0) (F_32 1) (F_32 2) (F_32 3) (F_32 4) (F_32 5) (F_32 6) (F_32 7) (F_32 8) (upd (F_32 10) (Int32.toNatClampNeg r_176) x_31) (upd (F_32 13) (Int32.toNatClampNeg x_31) 1) (F_32 14) (F_32 15) (F_32 16) (F_32 17) (upd (F_32 18) (Int32.toNatClampNeg x_31) r_176) (F_32 19) (F_32 20) (F_32 21) (F_32 22) (upd (F_32 23) (Int32.toNatClampNeg x_31) z_185) (F_32 24) (F_32 25) (F_32 26) (F_32 27) (F_32 28) (F_32 29) (F_32 30) (F_32 31) (F_32 32) (F_32 33) (F_32 34) (F_32 35) (F_32 36) (F_32 37) (F_32 38) (F_32 39) (F_32 40) (F_32 41) (F_32 42) (F_32 43) (F_32 49) (F_32 50) (F_32 51) (F_32 52) (F_32 53) (F_32 54) (F_32 55) (F_32 56) (F_32 57) (F_32 58) (F_32 59) (n_33 9) (n_33 11) (n_33 12) (n_33 44) (n_33 45) (n_33 46) (n_33 47) (n_33 48)) H := hP
            have hD : va_D A (w10 h0 X C (F_32 0) (F_32 1) (F_32 2) (F_32 3) (F_32 4) (F_32 5) (F_32 6) (F_32 7) (F_32 8) (upd (F_32 10) (Int32.toNatClampNeg r_176) x_31) (upd (F_32 13) (Int32.toNatClampNeg x_31) 1) (F_32 14) (F_32 15) (F_32 16) (F_32 17) (upd (F_32 18) (Int32.toNatClampNeg x_31) r_176) (F_32 19) (F_32 20) (F_32 21) (F_32 22) (upd (F_32 23) (Int32.toNatClampNeg x_31) z_185) (F_32 24) (F_32 25) (F_32 26) (F_32 27) (F_32 28) (F_32 29) (F_32 30) (F_32 31) (F_32 32) (F_32 33) (F_32 34) (F_32 35) (F_32 36) (F_32 37) (F_32 38) (F_32 39) (F_32 40) (F_32 41) (F_32 42) (F_32 43) (F_32 49) (F_32 50) (F_32 51) (F_32 52) (F_32 53) (F_32 54) (F_32 55) (F_32 56) (F_32 57) (F_32 58) (F_32 59) (n_33 9) (n_33 11) (n_33 12) (n_33 44) (n_33 45) (n_33 46) (n_33 47) (n_33 48)) := hD
            refine lv_iconst (v := 0) hx hb dX10_oneBeat_81 (by decide) ?_
            refine lv_istore_n (lv' := [(3, .int 0), (2, .int r_176), (1, .int x_31), (0, .ref h0)]) hx hb dX10_oneBeat_82 rfl hl (by decide) rfl (fun ls hl => ?_)
            have L83 : ∀ (fuel : Nat) (x_186 : Int32) (f_187 : Nat → Int32) (H : Heap) (locs : List Loc) (ls : Array Slot), (9 - x_186.toInt).toNat < fuel → (0 ≤ x_186.toInt ∧ x_186.toInt ≤ 8) → va_P (dC, dI) vwCl (w10 h0 X C (F_32 0) (F_32 1) (F_32 2) (F_32 3) (F_32 4) (F_32 5) (F_32 6) (F_32 7) (F_32 8) (upd (F_32 10) (Int32.toNatClampNeg r_176) x_31) (upd (F_32 13) (Int32.toNatClampNeg x_31) 1) (F_32 14) (F_32 15) (F_32 16) (F_32 17) (upd (F_32 18) (Int32.toNatClampNeg x_31) r_176) (F_32 19) (F_32 20) (F_32 21) (F_32 22) (upd (F_32 23) (Int32.toNatClampNeg x_31) z_185) (F_32 24) (F_32 25) (F_32 26) (F_32 27) (F_32 28) (F_32 29) (F_32 30) (F_32 31) (F_32 32) (F_32 33) (F_32 34) f_187 (F_32 36) (F_32 37) (F_32 38) (F_32 39) (F_32 40) (F_32 41) (F_32 42) (F_32 43) (F_32 49) (F_32 50) (F_32 51) (F_32 52) (F_32 53) (F_32 54) (F_32 55) (F_32 56) (F_32 57) (F_32 58) (F_32 59) (n_33 9) (n_33 11) (n_33 12) (n_33 44) (n_33 45) (n_33 46) (n_33 47) (n_33 48)) H → va_D A (w10 h0 X C (F_32 0) (F_32 1) (F_32 2) (F_32 3) (F_32 4) (F_32 5) (F_32 6) (F_32 7) (F_32 8) (upd (F_32 10) (Int32.toNatClampNeg r_176) x_31) (upd (F_32 13) (Int32.toNatClampNeg x_31) 1) (F_32 14) (F_32 15) (F_32 16) (F_32 17) (upd (F_32 18) (Int32.toNatClampNeg x_31) r_176) (F_32 19) (F_32 20) (F_32 21) (F_32 22) (upd (F_32 23) (Int32.toNatClampNeg x_31) z_185) (F_32 24) (F_32 25) (F_32 26) (F_32 27) (F_32 28) (F_32 29) (F_32 30) (F_32 31) (F_32 32) (F_32 33) (F_32 34) f_187 (F_32 36) (F_32 37) (F_32 38) (F_32 39) (F_32 40) (F_32 41) (F_32 42) (F_32 43) (F_32 49) (F_32 50) (F_32 51) (F_32 52) (F_32 53) (F_32 54) (F_32 55) (F_32 56) (F_32 57) (F_32 58) (F_32 59) (n_33 9) (n_33 11) (n_33 12) (n_33 44) (n_33 45) (n_33 46) (n_33 47) (n_33 48)) → va_S A s.heap H locs → lv_has ls 4 [(3, .int x_186), (2, .int r_176), (1, .int x_31), (0, .ref h0)] → W p l e (headSpec (.code yX10_oneBeat cX10_oneBeat 4 none :: gw) ({ frames := 6, cells := 0, slots := 0, locals := 143 })).room s m ([.ref h0] : List Value).toArray below meth c H locs 0 0 (MQ below (va_Qv (fun (u : (Nat → Nat → Int32) × (Nat → Int32)) => (n 11).toInt ≤ (u.2 11).toInt) (fun u t => va_P (dC, dI) vwCl (w10 h0 X C (u.1 0) (u.1 1) (u.1 2) (u.1 3) (u.1 4) (u.1 5) (u.1 6) (u.1 7) (u.1 8) (u.1 10) (u.1 13) (u.1 14) (u.1 15) (u.1 16) (u.1 17) (u.1 18) (u.1 19) (u.1 20) (u.1 21) (u.1 22) (u.1 23) (u.1 24) (u.1 25) (u.1 26) (u.1 27) (u.1 28) (u.1 29) (u.1 30) (u.1 31) (u.1 32) (u.1 33) (u.1 34) (u.1 35) (u.1 36) (u.1 37) (u.1 38) (u.1 39) (u.1 40) (u.1 41) (u.1 42) (u.1 43) (u.1 49) (u.1 50) (u.1 51) (u.1 52) (u.1 53) (u.1 54) (u.1 55) (u.1 56) (u.1 57) (u.1 58) (u.1 59) (u.2 9) (u.2 11) (u.2 12) (u.2 44) (u.2 45) (u.2 46) (u.2 47) (u.2 48)) t.heap ∧ va_D A (w10 h0 X C (u.1 0) (u.1 1) (u.1 2) (u.1 3) (u.1 4) (u.1 5) (u.1 6) (u.1 7) (u.1 8) (u.1 10) (u.1 13) (u.1 14) (u.1 15) (u.1 16) (u.1 17) (u.1 18) (u.1 19) (u.1 20) (u.1 21) (u.1 22) (u.1 23) (u.1 24) (u.1 25) (u.1 26) (u.1 27) (u.1 28) (u.1 29) (u.1 30) (u.1 31) (u.1 32) (u.1 33) (u.1 34) (u.1 35) (u.1 36) (u.1 37) (u.1 38) (u.1 39) (u.1 40) (u.1 41) (u.1 42) (u.1 43) (u.1 49) (u.1 50) (u.1 51) (u.1 52) (u.1 53) (u.1 54) (u.1 55) (u.1 56) (u.1 57) (u.1 58) (u.1 59) (u.2 9) (u.2 11) (u.2 12) (u.2 44) (u.2 45) (u.2 46) (u.2 47) (u.2 48)) ∧ I10 (kp + 400) u.1 u.2) A) ([.ref h0] : List Value).toArray s 0 0 A) (F0 m 83 ls []) := by
              intro fuel
              induction fuel with
              | zero => intro x_186 f_187 H locs ls hm; exact absurd hm (Nat.not_lt_zero _)
              | succ fuel_189 ih_188 =>
                intro x_186 f_187 H locs ls hm_191 v_190 hP hD hS hl
                refine lv_iload_n hx hb dX10_oneBeat_83 rfl (lv_at hl 0 rfl) ?_
                refine lv_bipush (v := 8) hx hb dX10_oneBeat_84 (by decide) ?_
                refine lv_icmp_ge (tgt := 116) hx hb dX10_oneBeat_86 (by decide) (fun c_192 => ?_) (fun c_192 => ?_)
                · simp only [i_lt, i_le, i_eq, ti_8] at c_192
                  obtain ⟨y_193, ey_193⟩ : ∃ q : Int32, q = x_31 + (1) := ⟨_, rfl⟩
                  refine lv_iinc (v := y_193) (lv' := [(1, .int y_193), (3, .int x_186), (2, .int r_176), (0, .ref h0)]) hx hb dX10_oneBeat_116 hl (k := 2) rfl (by rw [ey_193]; rfl) (by decide) rfl (fun ls hl => ?_)
                  have ty_193 : y_193.toInt = x_31.toInt + (1) := ar_add rfl ti_1 ey_193 (by omega)
                  refine lv_goto (tgt := 12) hx hb dX10_oneBeat_119 (by decide) ?_
                  exact ih_35 y_193 (fun k => ([F_32 0, F_32 1, F_32 2, F_32 3, F_32 4, F_32 5, F_32 6, F_32 7, F_32 8, (fun _ => 0), upd (F_32 10) (Int32.toNatClampNeg r_176) x_31, (fun _ => 0), (fun _ => 0), upd (F_32 13) (Int32.toNatClampNeg x_31) 1, F_32 14, F_32 15, F_32 16, F_32 17, upd (F_32 18) (Int32.toNatClampNeg x_31) r_176, F_32 19, F_32 20, F_32 21, F_32 22, upd (F_32 23) (Int32.toNatClampNeg x_31) z_185, F_32 24, F_32 25, F_32 26, F_32 27, F_32 28, F_32 29, F_32 30, F_32 31, F_32 32, F_32 33, F_32 34, f_187, F_32 36, F_32 37, F_32 38, F_32 39, F_32 40, F_32 41, F_32 42, F_32 43, (fun _ => 0), (fun _ => 0), (fun _ => 0), (fun _ => 0), (fun _ => 0), F_32 49, F_32 50, F_32 51, F_32 52, F_32 53, F_32 54, F_32 55, F_32 56, F_32 57, F_32 58, F_32 59] : List (Nat → Int32)).getD k (fun _ => 0)) n_33 (I10_mono (k := kp) ⟨b_40, b_41, b_180, b_43, b_44, b_45, b_182, b_47, b_48, b_49, b_50, b_51, i_52, i_53, i_54, i_55, i_56, i_57, i_58, j_59, j_183, j_61, j_62, j_63, j_64, j_65, j_66, j_181, j_68⟩ (by omega)) H locs ls (by omega) (by omega) (by show (n 11).toInt ≤ (n_33 11).toInt; omega) hP hD hS (lv_sub hl [0, 3] rfl)
                · simp only [i_lt, i_le, i_eq, ti_8] at c_192
                  refine lv_aload_n hx hb dX10_oneBeat_89 rfl (lv_at hl 3 rfl) ?_
                  refine va_get (D := (dC, dI)) (ci := 10) (v := .ref (X 0)) (C := RX10) (T := TX10) (N := 60) hx hb hg gb_10 hown hK hP 0 rfl rfl 0 (by decide) (hg _ gm_fieldLink_RX10_7_ErrandGuildModel_manner_AI_) (fun _ h9 => h9) rfl dX10_oneBeat_90 ?_
                  refine lv_iload_n hx hb dX10_oneBeat_93 rfl (lv_at hl 0 rfl) ?_
                  refine va_iald (f := F_32 0) hx hb hK hP 1 0 rfl rfl (vp_in_iff.mpr ⟨by omega, by omega⟩) dX10_oneBeat_94 ?_
                  refine lv_topi (fun z_194 ez_194 => ?_)
                  have qz_194 := congrArg Int32.toInt ez_194
                  refine lv_if_ne (tgt := 110) hx hb dX10_oneBeat_95 (by decide) (fun c_195 => ?_) (fun c_195 => ?_)
                  · simp only [i_lt, i_le, i_eq, ti_0] at c_195
                    obtain ⟨y_196, ey_196⟩ : ∃ q : Int32, q = x_186 + (1) := ⟨_, rfl⟩
                    refine lv_iinc (v := y_196) (lv' := [(3, .int y_196), (2, .int r_176), (1, .int x_31), (0, .ref h0)]) hx hb dX10_oneBeat_110 hl (k := 0) rfl (by rw [ey_196]; rfl) (by decide) rfl (fun ls hl => ?_)
                    have ty_196 : y_196.toInt = x_186.toInt + (1) := ar_add rfl ti_1 ey_196 (by omega)
                    refine lv_goto (tgt := 83) hx hb dX10_oneBeat_113 (by decide) ?_
                    exact ih_188 y_196 f_187  H locs ls (by omega) (by omega) hP hD hS (lv_sub hl [0, 1, 2, 3] rfl)
                  · simp only [i_lt, i_le, i_eq, ti_0] at c_195
                    refine lv_aload_n hx hb dX10_oneBeat_98 rfl (lv_at hl 3 rfl) ?_
                    refine va_get (D := (dC, dI)) (ci := 10) (v := .ref (X 35)) (C := RX10) (T := TX10) (N := 60) hx hb hg gb_10 hown hK hP 0 rfl rfl 35 (by decide) (hg _ gm_fieldLink_RX10_111_ErrandGuildModel_hasWritten_AZ_) (fun _ h9 => h9) rfl dX10_oneBeat_99 ?_
                    refine lv_bipush (v := 8) hx hb dX10_oneBeat_102 (by decide) ?_
                    refine lv_iload_n hx hb dX10_oneBeat_104 rfl (lv_at hl 2 rfl) ?_
                    refine lv_imul hx hb dX10_oneBeat_105 ?_
                    refine lv_topi (fun z_197 ez_197 => ?_)
                    have tz_197 : z_197.toInt = 8 * x_31.toInt := ar_mul ti_8 rfl ez_197 (by omega)
                    refine lv_iload_n hx hb dX10_oneBeat_106 rfl (lv_at hl 0 rfl) ?_
                    refine lv_iadd hx hb dX10_oneBeat_107 ?_
                    refine lv_topi (fun z_198 ez_198 => ?_)
                    have tz_198 : z_198.toInt = z_197.toInt + x_186.toInt := ar_add rfl rfl ez_198 (by omega)
                    refine lv_iconst (v := 0) hx hb dX10_oneBeat_108 (by decide) ?_
                    refine va_zast (f := f_187) hx hb hK hP hD hS 33 32 rfl rfl (vp_in_iff.mpr ⟨by omega, by omega⟩) dX10_oneBeat_109 (fun H locs hP hD hS => ?_)
                    have hP : va_P (dC, dI) vwCl (w10 h0 X C (F_32 0) (F_32 1) (F_32 2) (F_32 3) (F_32 4) (F_32 5) (F_32 6) (F_32 7) (F_32 8) (upd (F_32 10) (Int32.toNatClampNeg r_176) x_31) (upd (F_32 13) (Int32.toNatClampNeg x_31) 1) (F_32 14) (F_32 15) (F_32 16) (F_32 17) (upd (F_32 18) (Int32.toNatClampNeg x_31) r_176) (F_32 19) (F_32 20) (F_32 21) (F_32 22) (upd (F_32 23) (Int32.toNatClampNeg x_31) z_185) (F_32 24) (F_32 25) (F_32 26) (F_32 27) (F_32 28) (F_32 29) (F_32 30) (F_32 31) (F_32 32) (F_32 33) (F_32 34) (upd f_187 (Int32.toNatClampNeg z_198) (vp_nar .boolean 0)) (F_32 36) (F_32 37) (F_32 38) (F_32 39) (F_32 40) (F_32 41) (F_32 42) (F_32 43) (F_32 49) (F_32 50) (F_32 51) (F_32 52) (F_32 53) (F_32 54) (F_32 55) (F_32 56) (F_32 57) (F_32 58) (F_32 59) (n_33 9) (n_33 11) (n_33 12) (n_33 44) (n_33 45) (n_33 46) (n_33 47) (n_33 48)) H := hP
                    have hD : va_D A (w10 h0 X C (F_32 0) (F_32 1) (F_32 2) (F_32 3) (F_32 4) (F_32 5) (F_32 6) (F_32 7) (F_32 8) (upd (F_32 10) (Int32.toNatClampNeg r_176) x_31) (upd (F_32 13) (Int32.toNatClampNeg x_31) 1) (F_32 14) (F_32 15) (F_32 16) (F_32 17) (upd (F_32 18) (Int32.toNatClampNeg x_31) r_176) (F_32 19) (F_32 20) (F_32 21) (F_32 22) (upd (F_32 23) (Int32.toNatClampNeg x_31) z_185) (F_32 24) (F_32 25) (F_32 26) (F_32 27) (F_32 28) (F_32 29) (F_32 30) (F_32 31) (F_32 32) (F_32 33) (F_32 34) (upd f_187 (Int32.toNatClampNeg z_198) (vp_nar .boolean 0)) (F_32 36) (F_32 37) (F_32 38) (F_32 39) (F_32 40) (F_32 41) (F_32 42) (F_32 43) (F_32 49) (F_32 50) (F_32 51) (F_32 52) (F_32 53) (F_32 54) (F_32 55) (F_32 56) (F_32 57) (F_32 58) (F_32 59) (n_33 9) (n_33 11) (n_33 12) (n_33 44) (n_33 45) (n_33 46) (n_33 47) (n_33 48)) := hD
                    obtain ⟨y_199, ey_199⟩ : ∃ q : Int32, q = x_186 + (1) := ⟨_, rfl⟩
                    refine lv_iinc (v := y_199) (lv' := [(3, .int y_199), (2, .int r_176), (1, .int x_31), (0, .ref h0)]) hx hb dX10_oneBeat_110 hl (k := 0) rfl (by rw [ey_199]; rfl) (by decide) rfl (fun ls hl => ?_)
                    have ty_199 : y_199.toInt = x_186.toInt + (1) := ar_add rfl ti_1 ey_199 (by omega)
                    refine lv_goto (tgt := 83) hx hb dX10_oneBeat_113 (by decide) ?_
                    exact ih_188 y_199 (upd f_187 (Int32.toNatClampNeg z_198) (vp_nar .boolean 0))  H locs ls (by omega) (by omega) hP hD hS (lv_sub hl [0, 1, 2, 3] rfl)
            exact L83 _ (0) (F_32 35)  _ _ _ (Nat.lt_succ_self _) (by have t_0 := ti_0; omega) hP hD hS (lv_sub hl [0, 1, 2, 3] rfl)
          · simp only [i_lt, i_le, i_eq, ti_m1] at c_179
            refine lv_goto (tgt := 116) hx hb dX10_oneBeat_43 (by decide) ?_
            obtain ⟨y_200, ey_200⟩ : ∃ q : Int32, q = x_31 + (1) := ⟨_, rfl⟩
            refine lv_iinc (v := y_200) (lv' := [(1, .int y_200), (2, .int r_176), (0, .ref h0)]) hx hb dX10_oneBeat_116 hl (k := 1) rfl (by rw [ey_200]; rfl) (by decide) rfl (fun ls hl => ?_)
            have ty_200 : y_200.toInt = x_31.toInt + (1) := ar_add rfl ti_1 ey_200 (by omega)
            refine lv_goto (tgt := 12) hx hb dX10_oneBeat_119 (by decide) ?_
            exact ih_35 y_200 F_32 n_33 (I10_mono (k := kp) ⟨b_40, b_41, b_42, b_43, b_44, b_45, b_46, b_47, b_48, b_49, b_50, b_51, i_52, i_53, i_54, i_55, i_56, i_57, i_58, j_59, j_60, j_61, j_62, j_63, j_64, j_65, j_66, j_67, j_68⟩ (by omega)) H locs ls (by omega) (by omega) (by show (n 11).toInt ≤ (n_33 11).toInt; omega) hP hD hS (lv_sub hl [0, 2] rfl)
  exact L12 _ (0) F (fun k => ([0, 0, 0, 0, 0, 0, 0, 0, 0, n 9, 0, n 11, z_30, 0, 0, 0, 0, 0, 0, 0, 0, 0, 0, 0, 0, 0, 0, 0, 0, 0, 0, 0, 0, 0, 0, 0, 0, 0, 0, 0, 0, 0, 0, 0, n 44, n 45, n 46, n 47, n 48, 0, 0, 0, 0, 0, 0, 0, 0, 0, 0, 0] : List Int32).getD k 0) (I10_mono (k := kp) ⟨b_1, b_2, b_3, b_4, b_5, b_6, b_7, b_8, b_9, b_10, b_11, b_12, i_13, i_14, i_15, i_16, i_17, i_18, i_19, j_20, j_21, j_22, j_23, j_24, j_25, j_26, j_27, j_28, j_29⟩ (by have t_0 := ti_0; omega)) _ _ _ (Nat.lt_succ_self _) (by have t_0 := ti_0; omega) (by have t_0 := ti_0; show (n 11).toInt ≤ (n 11).toInt; omega) hP hD hS (lv_sub hl [0, 1] rfl)

set_option maxHeartbeats 8000000 in
set_option maxRecDepth 100000 in
theorem c_X10_beat (l : Launch) (dC : Nat → ClassId) (dI : Nat → Nat → Nat) (kp : Int) (h0 : Nat) (X : Nat → Nat) (C : Nat → ClassId) (F : Nat → Nat → Int32) (n : Nat → Int32) (v1 : Int32) (sz : Nat) (hI : I10 kp F n) (hkp : kp ≤ 1800000000) : Met l yX10_beat (.code yX10_beat cX10_beat 3 (some .int) :: gw) ({ frames := 7, cells := 0, slots := 0, locals := 166 }) (va_Pc [.ref h0, .int v1] (fun U => U.heap.size = sz ∧ va_P (dC, dI) vwCl (w10 h0 X C (F 0) (F 1) (F 2) (F 3) (F 4) (F 5) (F 6) (F 7) (F 8) (F 10) (F 13) (F 14) (F 15) (F 16) (F 17) (F 18) (F 19) (F 20) (F 21) (F 22) (F 23) (F 24) (F 25) (F 26) (F 27) (F 28) (F 29) (F 30) (F 31) (F 32) (F 33) (F 34) (F 35) (F 36) (F 37) (F 38) (F 39) (F 40) (F 41) (F 42) (F 43) (F 49) (F 50) (F 51) (F 52) (F 53) (F 54) (F 55) (F 56) (F 57) (F 58) (F 59) (n 9) (n 11) (n 12) (n 44) (n 45) (n 46) (n 47) (n 48)) U.heap ∧ va_K (dC, dI) vwCl (t10 C) U ∧ va_D (fun _ => True) (w10 h0 X C (F 0) (F 1) (F 2) (F 3) (F 4) (F 5) (F 6) (F 7) (F 8) (F 10) (F 13) (F 14) (F 15) (F 16) (F 17) (F 18) (F 19) (F 20) (F 21) (F 22) (F 23) (F 24) (F 25) (F 26) (F 27) (F 28) (F 29) (F 30) (F 31) (F 32) (F 33) (F 34) (F 35) (F 36) (F 37) (F 38) (F 39) (F 40) (F 41) (F 42) (F 43) (F 49) (F 50) (F 51) (F 52) (F 53) (F 54) (F 55) (F 56) (F 57) (F 58) (F 59) (n 9) (n 11) (n 12) (n 44) (n 45) (n 46) (n 47) (n 48)) ∧ nx U)) (va_Qi (fun (r : Int32) (u : (Nat → Nat → Int32) × (Nat → Int32)) => (n 11).toInt ≤ (u.2 11).toInt ∧ ((n 11).toInt = 0 → (u.2 11).toInt = 0)) (fun u t => va_P (dC, dI) vwCl (w10 h0 X C (u.1 0) (u.1 1) (u.1 2) (u.1 3) (u.1 4) (u.1 5) (u.1 6) (u.1 7) (u.1 8) (u.1 10) (u.1 13) (u.1 14) (u.1 15) (u.1 16) (u.1 17) (u.1 18) (u.1 19) (u.1 20) (u.1 21) (u.1 22) (u.1 23) (u.1 24) (u.1 25) (u.1 26) (u.1 27) (u.1 28) (u.1 29) (u.1 30) (u.1 31) (u.1 32) (u.1 33) (u.1 34) (u.1 35) (u.1 36) (u.1 37) (u.1 38) (u.1 39) (u.1 40) (u.1 41) (u.1 42) (u.1 43) (u.1 49) (u.1 50) (u.1 51) (u.1 52) (u.1 53) (u.1 54) (u.1 55) (u.1 56) (u.1 57) (u.1 58) (u.1 59) (u.2 9) (u.2 11) (u.2 12) (u.2 44) (u.2 45) (u.2 46) (u.2 47) (u.2 48)) t.heap ∧ va_D (va_A (w10 h0 X C (F 0) (F 1) (F 2) (F 3) (F 4) (F 5) (F 6) (F 7) (F 8) (F 10) (F 13) (F 14) (F 15) (F 16) (F 17) (F 18) (F 19) (F 20) (F 21) (F 22) (F 23) (F 24) (F 25) (F 26) (F 27) (F 28) (F 29) (F 30) (F 31) (F 32) (F 33) (F 34) (F 35) (F 36) (F 37) (F 38) (F 39) (F 40) (F 41) (F 42) (F 43) (F 49) (F 50) (F 51) (F 52) (F 53) (F 54) (F 55) (F 56) (F 57) (F 58) (F 59) (n 9) (n 11) (n 12) (n 44) (n 45) (n 46) (n 47) (n 48)) sz) (w10 h0 X C (u.1 0) (u.1 1) (u.1 2) (u.1 3) (u.1 4) (u.1 5) (u.1 6) (u.1 7) (u.1 8) (u.1 10) (u.1 13) (u.1 14) (u.1 15) (u.1 16) (u.1 17) (u.1 18) (u.1 19) (u.1 20) (u.1 21) (u.1 22) (u.1 23) (u.1 24) (u.1 25) (u.1 26) (u.1 27) (u.1 28) (u.1 29) (u.1 30) (u.1 31) (u.1 32) (u.1 33) (u.1 34) (u.1 35) (u.1 36) (u.1 37) (u.1 38) (u.1 39) (u.1 40) (u.1 41) (u.1 42) (u.1 43) (u.1 49) (u.1 50) (u.1 51) (u.1 52) (u.1 53) (u.1 54) (u.1 55) (u.1 56) (u.1 57) (u.1 58) (u.1 59) (u.2 9) (u.2 11) (u.2 12) (u.2 44) (u.2 45) (u.2 46) (u.2 47) (u.2 48)) ∧ I10 (kp + 40000) u.1 u.2) (va_A (w10 h0 X C (F 0) (F 1) (F 2) (F 3) (F 4) (F 5) (F 6) (F 7) (F 8) (F 10) (F 13) (F 14) (F 15) (F 16) (F 17) (F 18) (F 19) (F 20) (F 21) (F 22) (F 23) (F 24) (F 25) (F 26) (F 27) (F 28) (F 29) (F 30) (F 31) (F 32) (F 33) (F 34) (F 35) (F 36) (F 37) (F 38) (F 39) (F 40) (F 41) (F 42) (F 43) (F 49) (F 50) (F 51) (F 52) (F 53) (F 54) (F 55) (F 56) (F 57) (F 58) (F 59) (n 9) (n 11) (n 12) (n 44) (n 45) (n 46) (n 47) (n 48)) sz)) 0 0 (va_A (w10 h0 X C (F 0) (F 1) (F 2) (F 3) (F 4) (F 5) (F 6) (F 7) (F 8) (F 10) (F 13) (F 14) (F 15) (F 16) (F 17) (F 18) (F 19) (F 20) (F 21) (F 22) (F 23) (F 24) (F 25) (F 26) (F 27) (F 28) (F 29) (F 30) (F 31) (F 32) (F 33) (F 34) (F 35) (F 36) (F 37) (F 38) (F 39) (F 40) (F 41) (F 42) (F 43) (F 49) (F 50) (F 51) (F 52) (F 53) (F 54) (F 55) (F 56) (F 57) (F 58) (F 59) (n 9) (n 11) (n 12) (n 44) (n 45) (n 46) (n 47) (n 48)) sz) := by
  refine Met.ofW (cc := cX10_beat) (maxL := 3) (ret := (some .int)) (by decide) rfl ?_
  intro p e s m args below meth c s₁ B hml hv
  obtain ⟨rfl, hsz, hP, hK, hD0, hN⟩ := hv
  have hx := B.exec
  have hb := B.bytes
  have hr := B.returns
  have hts := atoms_spec (ws := .code yX10_beat cX10_beat 3 (some .int) :: gw) B.pre
  have hg : ∀ w ∈ gw, w.before _ s = true := fun w h => hts w (List.mem_cons_of_mem _ h)
  have hown : s.vm.findClass RX10 = some m.cls := findClass_of_methodNamed B.named
  have hlocks := B.notSynchronized
  subst hsz
  have hD := hD0.self (sz := s.heap.size)
  generalize hAe : va_A (w10 h0 X C (F 0) (F 1) (F 2) (F 3) (F 4) (F 5) (F 6) (F 7) (F 8) (F 10) (F 13) (F 14) (F 15) (F 16) (F 17) (F 18) (F 19) (F 20) (F 21) (F 22) (F 23) (F 24) (F 25) (F 26) (F 27) (F 28) (F 29) (F 30) (F 31) (F 32) (F 33) (F 34) (F 35) (F 36) (F 37) (F 38) (F 39) (F 40) (F 41) (F 42) (F 43) (F 49) (F 50) (F 51) (F 52) (F 53) (F 54) (F 55) (F 56) (F 57) (F 58) (F 59) (n 9) (n 11) (n 12) (n 44) (n 45) (n 46) (n 47) (n 48)) s.heap.size = A at hD ⊢
  have hA : ∀ q : Nat, s.heap.size ≤ q → A q := fun q h => by rw [← hAe]; exact Or.inr h
  have hS : va_S A s.heap s.heap [] := va_S.rf
  have hP : va_P (dC, dI) vwCl (w10 h0 X C (F 0) (F 1) (F 2) (F 3) (F 4) (F 5) (F 6) (F 7) (F 8) (F 10) (F 13) (F 14) (F 15) (F 16) (F 17) (F 18) (F 19) (F 20) (F 21) (F 22) (F 23) (F 24) (F 25) (F 26) (F 27) (F 28) (F 29) (F 30) (F 31) (F 32) (F 33) (F 34) (F 35) (F 36) (F 37) (F 38) (F 39) (F 40) (F 41) (F 42) (F 43) (F 49) (F 50) (F 51) (F 52) (F 53) (F 54) (F 55) (F 56) (F 57) (F 58) (F 59) (n 9) (n 11) (n 12) (n 44) (n 45) (n 46) (n 47) (n 48)) s.heap := hP
  have hl := lv_entry ([.ref h0, .int v1]) (n := 3) (Nat.le_of_ble_eq_true rfl)
  rw [lg_entry_eq]
  generalize (lg_sl ([.ref h0, .int v1]) ++ List.replicate (3 - (lg_sl ([.ref h0, .int v1])).length) Slot.unset).toArray = ls at hl ⊢
  have hl : lv_has ls 3 [(0, .ref h0), (1, .int v1)] := hl
  obtain ⟨b_1, b_2, b_3, b_4, b_5, b_6, b_7, b_8, b_9, b_10, b_11, b_12, i_13, i_14, i_15, i_16, i_17, i_18, i_19, j_20, j_21, j_22, j_23, j_24, j_25, j_26, j_27, j_28, j_29⟩ := id hI
  refine lv_iload_n hx hb dX10_beat_0 rfl (lv_at hl 1 rfl) ?_
  refine lv_iconst (v := 1) hx hb dX10_beat_1 (by decide) ?_
  refine lv_icmp_lt (tgt := 11) hx hb dX10_beat_2 (by decide) (fun c_30 => ?_) (fun c_30 => ?_)
  · simp only [i_lt, i_le, i_eq, ti_1] at c_30
    refine lv_iconst (v := -1) hx hb dX10_beat_11 (by decide) ?_
    exact W.iret (v := -1) hx hb hr (fun t ht hW => ⟨⟨-1, (F, n), rfl, (by have t_ := ti_m1; show (n 11).toInt ≤ ((n 11)).toInt ∧ ((n 11).toInt = 0 → ((n 11)).toInt = 0); omega), by rw [ht]; exact hP, hD, I10_mono (k := kp) ⟨b_1, b_2, b_3, b_4, b_5, b_6, b_7, b_8, b_9, b_10, b_11, b_12, i_13, i_14, i_15, i_16, i_17, i_18, i_19, j_20, j_21, j_22, j_23, j_24, j_25, j_26, j_27, j_28, j_29⟩ (by omega)⟩, hS.F ht⟩) hS.2.2 dX10_beat_12
  · simp only [i_lt, i_le, i_eq, ti_1] at c_30
    refine lv_iload_n hx hb dX10_beat_5 rfl (lv_at hl 1 rfl) ?_
    refine lv_bipush (v := 100) hx hb dX10_beat_6 (by decide) ?_
    refine lv_icmp_le (tgt := 13) hx hb dX10_beat_8 (by decide) (fun c_31 => ?_) (fun c_31 => ?_)
    · simp only [i_lt, i_le, i_eq, ti_100] at c_31
      refine lv_iconst (v := 0) hx hb dX10_beat_13 (by decide) ?_
      refine lv_istore_n (lv' := [(2, .int 0), (0, .ref h0), (1, .int v1)]) hx hb dX10_beat_14 rfl hl (by decide) rfl (fun ls hl => ?_)
      have L15 : ∀ (fuel : Nat) (x_32 : Int32) (F_33 : Nat → Nat → Int32) (n_34 : Nat → Int32) (hI_35 : I10 (kp + 400 * x_32.toInt) F_33 n_34) (H : Heap) (locs : List Loc) (ls : Array Slot), (101 - x_32.toInt).toNat < fuel → (0 ≤ x_32.toInt ∧ x_32.toInt ≤ 100) → ((n 11).toInt ≤ (n_34 11).toInt) → (((n 11).toInt = 0 → (n_34 11).toInt = 0)) → va_P (dC, dI) vwCl (w10 h0 X C (F_33 0) (F_33 1) (F_33 2) (F_33 3) (F_33 4) (F_33 5) (F_33 6) (F_33 7) (F_33 8) (F_33 10) (F_33 13) (F_33 14) (F_33 15) (F_33 16) (F_33 17) (F_33 18) (F_33 19) (F_33 20) (F_33 21) (F_33 22) (F_33 23) (F_33 24) (F_33 25) (F_33 26) (F_33 27) (F_33 28) (F_33 29) (F_33 30) (F_33 31) (F_33 32) (F_33 33) (F_33 34) (F_33 35) (F_33 36) (F_33 37) (F_33 38) (F_33 39) (F_33 40) (F_33 41) (F_33 42) (F_33 43) (F_33 49) (F_33 50) (F_33 51) (F_33 52) (F_33 53) (F_33 54) (F_33 55) (F_33 56) (F_33 57) (F_33 58) (F_33 59) (n_34 9) (n_34 11) (n_34 12) (n_34 44) (n_34 45) (n_34 46) (n_34 47) (n_34 48)) H → va_D A (w10 h0 X C (F_33 0) (F_33 1) (F_33 2) (F_33 3) (F_33 4) (F_33 5) (F_33 6) (F_33 7) (F_33 8) (F_33 10) (F_33 13) (F_33 14) (F_33 15) (F_33 16) (F_33 17) (F_33 18) (F_33 19) (F_33 20) (F_33 21) (F_33 22) (F_33 23) (F_33 24) (F_33 25) (F_33 26) (F_33 27) (F_33 28) (F_33 29) (F_33 30) (F_33 31) (F_33 32) (F_33 33) (F_33 34) (F_33 35) (F_33 36) (F_33 37) (F_33 38) (F_33 39) (F_33 40) (F_33 41) (F_33 42) (F_33 43) (F_33 49) (F_33 50) (F_33 51) (F_33 52) (F_33 53) (F_33 54) (F_33 55) (F_33 56) (F_33 57) (F_33 58) (F_33 59) (n_34 9) (n_34 11) (n_34 12) (n_34 44) (n_34 45) (n_34 46) (n_34 47) (n_34 48)) → va_S A s.heap H locs → lv_has ls 3 [(2, .int x_32), (0, .ref h0), (1, .int v1)] → W p l e (headSpec (.code yX10_beat cX10_beat 3 (some .int) :: gw) ({ frames := 7, cells := 0, slots := 0, locals := 166 })).room s m ([.ref h0, .int v1] : List Value).toArray below meth c H locs 0 0 (MQ below (va_Qi (fun (r : Int32) (u : (Nat → Nat → Int32) × (Nat → Int32)) => (n 11).toInt ≤ (u.2 11).toInt ∧ ((n 11).toInt = 0 → (u.2 11).toInt = 0)) (fun u t => va_P (dC, dI) vwCl (w10 h0 X C (u.1 0) (u.1 1) (u.1 2) (u.1 3) (u.1 4) (u.1 5) (u.1 6) (u.1 7) (u.1 8) (u.1 10) (u.1 13) (u.1 14) (u.1 15) (u.1 16) (u.1 17) (u.1 18) (u.1 19) (u.1 20) (u.1 21) (u.1 22) (u.1 23) (u.1 24) (u.1 25) (u.1 26) (u.1 27) (u.1 28) (u.1 29) (u.1 30) (u.1 31) (u.1 32) (u.1 33) (u.1 34) (u.1 35) (u.1 36) (u.1 37) (u.1 38) (u.1 39) (u.1 40) (u.1 41) (u.1 42) (u.1 43) (u.1 49) (u.1 50) (u.1 51) (u.1 52) (u.1 53) (u.1 54) (u.1 55) (u.1 56) (u.1 57) (u.1 58) (u.1 59) (u.2 9) (u.2 11) (u.2 12) (u.2 44) (u.2 45) (u.2 46) (u.2 47) (u.2 48)) t.heap ∧ va_D A (w10 h0 X C (u.1 0) (u.1 1) (u.1 2) (u.1 3) (u.1 4) (u.1 5) (u.1 6) (u.1 7) (u.1 8) (u.1 10) (u.1 13) (u.1 14) (u.1 15) (u.1 16) (u.1 17) (u.1 18) (u.1 19) (u.1 20) (u.1 21) (u.1 22) (u.1 23) (u.1 24) (u.1 25) (u.1 26) (u.1 27) (u.1 28) (u.1 29) (u.1 30) (u.1 31) (u.1 32) (u.1 33) (u.1 34) (u.1 35) (u.1 36) (u.1 37) (u.1 38) (u.1 39) (u.1 40) (u.1 41) (u.1 42) (u.1 43) (u.1 49) (u.1 50) (u.1 51) (u.1 52) (u.1 53) (u.1 54) (u.1 55) (u.1 56) (u.1 57) (u.1 58) (u.1 59) (u.2 9) (u.2 11) (u.2 12) (u.2 44) (u.2 45) (u.2 46) (u.2 47) (u.2 48)) ∧ I10 (kp + 40000) u.1 u.2) A) ([.ref h0, .int v1] : List Value).toArray s 0 0 A) (F0 m 15 ls []) := by
        intro fuel
        induction fuel with
        | zero => intro x_32 F_33 n_34 hI_35 H locs ls hm; exact absurd hm (Nat.not_lt_zero _)
        | succ fuel_37 ih_36 =>
          intro x_32 F_33 n_34 hI_35 H locs ls hm_41 v_38 v_39 v_40 hP hD hS hl
          obtain ⟨b_42, b_43, b_44, b_45, b_46, b_47, b_48, b_49, b_50, b_51, b_52, b_53, i_54, i_55, i_56, i_57, i_58, i_59, i_60, j_61, j_62, j_63, j_64, j_65, j_66, j_67, j_68, j_69, j_70⟩ := id hI_35
          refine lv_iload_n hx hb dX10_beat_15 rfl (lv_at hl 0 rfl) ?_
          refine lv_iload_n hx hb dX10_beat_16 rfl (lv_at hl 2 rfl) ?_
          refine lv_icmp_ge (tgt := 38) hx hb dX10_beat_17 (by decide) (fun c_71 => ?_) (fun c_71 => ?_)
          · simp only [i_lt, i_le, i_eq] at c_71
            refine lv_iload_n hx hb dX10_beat_38 rfl (lv_at hl 0 rfl) ?_
            exact W.iret (v := x_32) hx hb hr (fun t ht hW => ⟨⟨x_32, (F_33, n_34), rfl, (by show (n 11).toInt ≤ ((n_34 11)).toInt ∧ ((n 11).toInt = 0 → ((n_34 11)).toInt = 0); omega), by rw [ht]; exact hP, hD, I10_mono (k := (kp + 400 * x_32.toInt)) ⟨b_42, b_43, b_44, b_45, b_46, b_47, b_48, b_49, b_50, b_51, b_52, b_53, i_54, i_55, i_56, i_57, i_58, i_59, i_60, j_61, j_62, j_63, j_64, j_65, j_66, j_67, j_68, j_69, j_70⟩ (by omega)⟩, hS.F ht⟩) hS.2.2 dX10_beat_39
          · simp only [i_lt, i_le, i_eq] at c_71
            refine lv_aload_n hx hb dX10_beat_20 rfl (lv_at hl 1 rfl) ?_
            have hFc := free_all hD hS hA
            refine va_calli (va_runV (As := []) (rest := []) ⟨hx, hb, hml, hown, hg⟩ (c_X10_isLeft l dC dI (kp + 400 * x_32.toInt) h0 X C F_33 n_34 H.size ⟨b_42, b_43, b_44, b_45, b_46, b_47, b_48, b_49, b_50, b_51, b_52, b_53, i_54, i_55, i_56, i_57, i_58, i_59, i_60, j_61, j_62, j_63, j_64, j_65, j_66, j_67, j_68, j_69, j_70⟩) (cwV 0 hg (gw_V gm_methodLink_RX10_269_yX10_isLeft gm_instanceMethod_yX10_isLeft gm_selects_RX10_yX10_isLeft_yX10_isLeft gm_initialized_RX10 gm_code_yX10_isLeft_cX10_isLeft_3_some_boolean_) rfl rfl rfl (by decide +kernel) ⟨Nat.le_of_ble_eq_true rfl, Nat.le_of_ble_eq_true rfl⟩) ⟨fun a U g mk q => by obtain ⟨q0, q1, qP, qK, qD, qN⟩ := q; exact ⟨q0, q1, qP, va_K.moved (u := U) (U := U.calling g mk a) (Vm.Alike.refl U.vm) qK, qD, nx_same (u := U) (U := U.calling g mk a) rfl qN⟩, va_recv hK hP (ci := 10) (q0 := 0) rfl rfl, fun U hU hW => ⟨rfl, by rw [hU], by rw [hU]; exact hP, va_K.moved hW.alike hK, hD.weaken (fun _ _ _ _ => trivial), nx_warm hW hN⟩⟩ rfl rfl hl.1 rfl (lv_room (Nat.le_of_ble_eq_true rfl)) dX10_beat_21 ⟨Nat.le_of_ble_eq_true rfl, Nat.le_of_ble_eq_true rfl⟩) hS (fun q _ h => hFc q h) hFc (fun r_72 u_73 t H1 locs ht hvm hw hB hz1 hk1 hS => ?_)
            obtain ⟨hP, hD⟩ := hB
            rw [ht] at hP
            have hD := hD.weaken (fun k q _ h => hFc _ h)
            generalize H1 = H at hP hS ⊢
            have hP : va_P (dC, dI) vwCl (w10 h0 X C (F_33 0) (F_33 1) (F_33 2) (F_33 3) (F_33 4) (F_33 5) (F_33 6) (F_33 7) (F_33 8) (F_33 10) (F_33 13) (F_33 14) (F_33 15) (F_33 16) (F_33 17) (F_33 18) (F_33 19) (F_33 20) (F_33 21) (F_33 22) (F_33 23) (F_33 24) (F_33 25) (F_33 26) (F_33 27) (F_33 28) (F_33 29) (F_33 30) (F_33 31) (F_33 32) (F_33 33) (F_33 34) (F_33 35) (F_33 36) (F_33 37) (F_33 38) (F_33 39) (F_33 40) (F_33 41) (F_33 42) (F_33 43) (F_33 49) (F_33 50) (F_33 51) (F_33 52) (F_33 53) (F_33 54) (F_33 55) (F_33 56) (F_33 57) (F_33 58) (F_33 59) (n_34 9) (n_34 11) (n_34 12) (n_34 44) (n_34 45) (n_34 46) (n_34 47) (n_34 48)) H := hP
            have hD : va_D A (w10 h0 X C (F_33 0) (F_33 1) (F_33 2) (F_33 3) (F_33 4) (F_33 5) (F_33 6) (F_33 7) (F_33 8) (F_33 10) (F_33 13) (F_33 14) (F_33 15) (F_33 16) (F_33 17) (F_33 18) (F_33 19) (F_33 20) (F_33 21) (F_33 22) (F_33 23) (F_33 24) (F_33 25) (F_33 26) (F_33 27) (F_33 28) (F_33 29) (F_33 30) (F_33 31) (F_33 32) (F_33 33) (F_33 34) (F_33 35) (F_33 36) (F_33 37) (F_33 38) (F_33 39) (F_33 40) (F_33 41) (F_33 42) (F_33 43) (F_33 49) (F_33 50) (F_33 51) (F_33 52) (F_33 53) (F_33 54) (F_33 55) (F_33 56) (F_33 57) (F_33 58) (F_33 59) (n_34 9) (n_34 11) (n_34 12) (n_34 44) (n_34 45) (n_34 46) (n_34 47) (n_34 48)) := hD
            rcases hw with ⟨rfl, w_74⟩ | ⟨rfl, w_74⟩
            · have w_74 : 0 < ((n_34 11)).toInt := w_74
              try simp only [upd_eq] at w_74
              refine lv_if_eq (tgt := 38) hx hb dX10_beat_24 (by decide) (fun c_75 => absurd c_75 (by decide)) (fun _ => ?_)
              refine lv_aload_n hx hb dX10_beat_27 rfl (lv_at hl 1 rfl) ?_
              have hFc := free_all hD hS hA
              refine va_callv (va_runV (As := []) (rest := []) ⟨hx, hb, hml, hown, hg⟩ (c_X10_oneBeat l dC dI (kp + 400 * x_32.toInt) h0 X C F_33 n_34 H.size ⟨b_42, b_43, b_44, b_45, b_46, b_47, b_48, b_49, b_50, b_51, b_52, b_53, i_54, i_55, i_56, i_57, i_58, i_59, i_60, j_61, j_62, j_63, j_64, j_65, j_66, j_67, j_68, j_69, j_70⟩ (by omega)) (cwV 0 hg (gw_V gm_methodLink_RX10_273_yX10_oneBeat gm_instanceMethod_yX10_oneBeat gm_selects_RX10_yX10_oneBeat_yX10_oneBeat gm_initialized_RX10 gm_code_yX10_oneBeat_cX10_oneBeat_4_none) rfl rfl rfl (by decide +kernel) ⟨Nat.le_of_ble_eq_true rfl, Nat.le_of_ble_eq_true rfl⟩) ⟨fun a U g mk q => by obtain ⟨q0, q1, qP, qK, qD, qN⟩ := q; exact ⟨q0, q1, qP, va_K.moved (u := U) (U := U.calling g mk a) (Vm.Alike.refl U.vm) qK, qD, nx_same (u := U) (U := U.calling g mk a) rfl qN⟩, va_recv hK hP (ci := 10) (q0 := 0) rfl rfl, fun U hU hW => ⟨rfl, by rw [hU], by rw [hU]; exact hP, va_K.moved hW.alike hK, hD.weaken (fun _ _ _ _ => trivial), nx_warm hW hN⟩⟩ rfl rfl hl.1 rfl (lv_room (Nat.le_of_ble_eq_true rfl)) dX10_beat_28 ⟨Nat.le_of_ble_eq_true rfl, Nat.le_of_ble_eq_true rfl⟩) hS (fun q _ h => hFc q h) hFc (fun u_77 t H1 locs ht hvm hw hB hz1 hk1 hS => ?_)
              obtain ⟨F_78, n_79⟩ := u_77
              obtain ⟨hP, hD, hI_80⟩ := hB
              have hI_80 : I10 ((kp + 400 * x_32.toInt) + 400) F_78 n_79 := hI_80
              obtain ⟨b_81, b_82, b_83, b_84, b_85, b_86, b_87, b_88, b_89, b_90, b_91, b_92, i_93, i_94, i_95, i_96, i_97, i_98, i_99, j_100, j_101, j_102, j_103, j_104, j_105, j_106, j_107, j_108, j_109⟩ := id hI_80
              rw [ht] at hP
              have hD := hD.weaken (fun k q _ h => hFc _ h)
              generalize H1 = H at hP hS ⊢
              have hP : va_P (dC, dI) vwCl (w10 h0 X C (F_78 0) (F_78 1) (F_78 2) (F_78 3) (F_78 4) (F_78 5) (F_78 6) (F_78 7) (F_78 8) (F_78 10) (F_78 13) (F_78 14) (F_78 15) (F_78 16) (F_78 17) (F_78 18) (F_78 19) (F_78 20) (F_78 21) (F_78 22) (F_78 23) (F_78 24) (F_78 25) (F_78 26) (F_78 27) (F_78 28) (F_78 29) (F_78 30) (F_78 31) (F_78 32) (F_78 33) (F_78 34) (F_78 35) (F_78 36) (F_78 37) (F_78 38) (F_78 39) (F_78 40) (F_78 41) (F_78 42) (F_78 43) (F_78 49) (F_78 50) (F_78 51) (F_78 52) (F_78 53) (F_78 54) (F_78 55) (F_78 56) (F_78 57) (F_78 58) (F_78 59) (n_79 9) (n_79 11) (n_79 12) (n_79 44) (n_79 45) (n_79 46) (n_79 47) (n_79 48)) H := hP
              have hD : va_D A (w10 h0 X C (F_78 0) (F_78 1) (F_78 2) (F_78 3) (F_78 4) (F_78 5) (F_78 6) (F_78 7) (F_78 8) (F_78 10) (F_78 13) (F_78 14) (F_78 15) (F_78 16) (F_78 17) (F_78 18) (F_78 19) (F_78 20) (F_78 21) (F_78 22) (F_78 23) (F_78 24) (F_78 25) (F_78 26) (F_78 27) (F_78 28) (F_78 29) (F_78 30) (F_78 31) (F_78 32) (F_78 33) (F_78 34) (F_78 35) (F_78 36) (F_78 37) (F_78 38) (F_78 39) (F_78 40) (F_78 41) (F_78 42) (F_78 43) (F_78 49) (F_78 50) (F_78 51) (F_78 52) (F_78 53) (F_78 54) (F_78 55) (F_78 56) (F_78 57) (F_78 58) (F_78 59) (n_79 9) (n_79 11) (n_79 12) (n_79 44) (n_79 45) (n_79 46) (n_79 47) (n_79 48)) := hD
              have w_110 : ((n_34 11)).toInt ≤ (n_79 11).toInt := hw
              try simp only [upd_eq] at w_110
              refine lv_iload_n hx hb dX10_beat_31 rfl (lv_at hl 0 rfl) ?_
              refine lv_iconst (v := 1) hx hb dX10_beat_32 (by decide) ?_
              refine lv_iadd hx hb dX10_beat_33 ?_
              refine lv_topi (fun z_111 ez_111 => ?_)
              have tz_111 : z_111.toInt = x_32.toInt + 1 := ar_add rfl ti_1 ez_111 (by omega)
              refine lv_istore_n (lv' := [(2, .int z_111), (0, .ref h0), (1, .int v1)]) hx hb dX10_beat_34 rfl hl (by decide) rfl (fun ls hl => ?_)
              refine lv_goto (tgt := 15) hx hb dX10_beat_35 (by decide) ?_
              exact ih_36 z_111 F_78 n_79 (I10_mono (k := ((kp + 400 * x_32.toInt) + 400)) ⟨b_81, b_82, b_83, b_84, b_85, b_86, b_87, b_88, b_89, b_90, b_91, b_92, i_93, i_94, i_95, i_96, i_97, i_98, i_99, j_100, j_101, j_102, j_103, j_104, j_105, j_106, j_107, j_108, j_109⟩ (by omega)) H locs ls (by omega) (by omega) (by show (n 11).toInt ≤ (n_79 11).toInt; omega) (by show ((n 11).toInt = 0 → (n_79 11).toInt = 0); omega) hP hD hS (lv_sub hl [0, 1, 2] rfl)
            · refine lv_if_eq (tgt := 38) hx hb dX10_beat_24 (by decide) (fun _ => ?_) (fun c_112 => absurd c_112 (by decide))
              refine lv_iload_n hx hb dX10_beat_38 rfl (lv_at hl 0 rfl) ?_
              exact W.iret (v := x_32) hx hb hr (fun t ht hW => ⟨⟨x_32, (F_33, n_34), rfl, (by show (n 11).toInt ≤ ((n_34 11)).toInt ∧ ((n 11).toInt = 0 → ((n_34 11)).toInt = 0); omega), by rw [ht]; exact hP, hD, I10_mono (k := (kp + 400 * x_32.toInt)) ⟨b_42, b_43, b_44, b_45, b_46, b_47, b_48, b_49, b_50, b_51, b_52, b_53, i_54, i_55, i_56, i_57, i_58, i_59, i_60, j_61, j_62, j_63, j_64, j_65, j_66, j_67, j_68, j_69, j_70⟩ (by omega)⟩, hS.F ht⟩) hS.2.2 dX10_beat_39
      exact L15 _ (0) F n (I10_mono (k := kp) ⟨b_1, b_2, b_3, b_4, b_5, b_6, b_7, b_8, b_9, b_10, b_11, b_12, i_13, i_14, i_15, i_16, i_17, i_18, i_19, j_20, j_21, j_22, j_23, j_24, j_25, j_26, j_27, j_28, j_29⟩ (by have t_0 := ti_0; omega)) _ _ _ (Nat.lt_succ_self _) (by have t_0 := ti_0; omega) (by have t_0 := ti_0; show (n 11).toInt ≤ (n 11).toInt; omega) (by have t_0 := ti_0; show ((n 11).toInt = 0 → (n 11).toInt = 0); omega) hP hD hS (lv_sub hl [0, 1, 2] rfl)
    · simp only [i_lt, i_le, i_eq, ti_100] at c_31
      refine lv_iconst (v := -1) hx hb dX10_beat_11 (by decide) ?_
      exact W.iret (v := -1) hx hb hr (fun t ht hW => ⟨⟨-1, (F, n), rfl, (by have t_ := ti_m1; show (n 11).toInt ≤ ((n 11)).toInt ∧ ((n 11).toInt = 0 → ((n 11)).toInt = 0); omega), by rw [ht]; exact hP, hD, I10_mono (k := kp) ⟨b_1, b_2, b_3, b_4, b_5, b_6, b_7, b_8, b_9, b_10, b_11, b_12, i_13, i_14, i_15, i_16, i_17, i_18, i_19, j_20, j_21, j_22, j_23, j_24, j_25, j_26, j_27, j_28, j_29⟩ (by omega)⟩, hS.F ht⟩) hS.2.2 dX10_beat_12

set_option maxHeartbeats 8000000 in
set_option maxRecDepth 100000 in
theorem c_X10_interrupt (l : Launch) (dC : Nat → ClassId) (dI : Nat → Nat → Nat) (kp : Int) (h0 : Nat) (X : Nat → Nat) (C : Nat → ClassId) (F : Nat → Nat → Int32) (n : Nat → Int32) (v1 : Int32) (sz : Nat) (hI : I10 kp F n) : Met l yX10_interrupt (.code yX10_interrupt cX10_interrupt 3 (some .boolean) :: gw) ({ frames := 1, cells := 0, slots := 0, locals := 21 }) (va_Pc [.ref h0, .int v1] (fun U => U.heap.size = sz ∧ va_P (dC, dI) vwCl (w10 h0 X C (F 0) (F 1) (F 2) (F 3) (F 4) (F 5) (F 6) (F 7) (F 8) (F 10) (F 13) (F 14) (F 15) (F 16) (F 17) (F 18) (F 19) (F 20) (F 21) (F 22) (F 23) (F 24) (F 25) (F 26) (F 27) (F 28) (F 29) (F 30) (F 31) (F 32) (F 33) (F 34) (F 35) (F 36) (F 37) (F 38) (F 39) (F 40) (F 41) (F 42) (F 43) (F 49) (F 50) (F 51) (F 52) (F 53) (F 54) (F 55) (F 56) (F 57) (F 58) (F 59) (n 9) (n 11) (n 12) (n 44) (n 45) (n 46) (n 47) (n 48)) U.heap ∧ va_K (dC, dI) vwCl (t10 C) U ∧ va_D (fun _ => True) (w10 h0 X C (F 0) (F 1) (F 2) (F 3) (F 4) (F 5) (F 6) (F 7) (F 8) (F 10) (F 13) (F 14) (F 15) (F 16) (F 17) (F 18) (F 19) (F 20) (F 21) (F 22) (F 23) (F 24) (F 25) (F 26) (F 27) (F 28) (F 29) (F 30) (F 31) (F 32) (F 33) (F 34) (F 35) (F 36) (F 37) (F 38) (F 39) (F 40) (F 41) (F 42) (F 43) (F 49) (F 50) (F 51) (F 52) (F 53) (F 54) (F 55) (F 56) (F 57) (F 58) (F 59) (n 9) (n 11) (n 12) (n 44) (n 45) (n 46) (n 47) (n 48)) ∧ nx U)) (va_Qi (fun (r : Int32) (u : (Nat → Nat → Int32) × (Nat → Int32)) => (r = 1 ∧ (u.2 11).toInt = (n 11).toInt) ∨ (r = 0 ∧ (u.2 11).toInt = (n 11).toInt)) (fun u t => va_P (dC, dI) vwCl (w10 h0 X C (u.1 0) (u.1 1) (u.1 2) (u.1 3) (u.1 4) (u.1 5) (u.1 6) (u.1 7) (u.1 8) (u.1 10) (u.1 13) (u.1 14) (u.1 15) (u.1 16) (u.1 17) (u.1 18) (u.1 19) (u.1 20) (u.1 21) (u.1 22) (u.1 23) (u.1 24) (u.1 25) (u.1 26) (u.1 27) (u.1 28) (u.1 29) (u.1 30) (u.1 31) (u.1 32) (u.1 33) (u.1 34) (u.1 35) (u.1 36) (u.1 37) (u.1 38) (u.1 39) (u.1 40) (u.1 41) (u.1 42) (u.1 43) (u.1 49) (u.1 50) (u.1 51) (u.1 52) (u.1 53) (u.1 54) (u.1 55) (u.1 56) (u.1 57) (u.1 58) (u.1 59) (u.2 9) (u.2 11) (u.2 12) (u.2 44) (u.2 45) (u.2 46) (u.2 47) (u.2 48)) t.heap ∧ va_D (va_A (w10 h0 X C (F 0) (F 1) (F 2) (F 3) (F 4) (F 5) (F 6) (F 7) (F 8) (F 10) (F 13) (F 14) (F 15) (F 16) (F 17) (F 18) (F 19) (F 20) (F 21) (F 22) (F 23) (F 24) (F 25) (F 26) (F 27) (F 28) (F 29) (F 30) (F 31) (F 32) (F 33) (F 34) (F 35) (F 36) (F 37) (F 38) (F 39) (F 40) (F 41) (F 42) (F 43) (F 49) (F 50) (F 51) (F 52) (F 53) (F 54) (F 55) (F 56) (F 57) (F 58) (F 59) (n 9) (n 11) (n 12) (n 44) (n 45) (n 46) (n 47) (n 48)) sz) (w10 h0 X C (u.1 0) (u.1 1) (u.1 2) (u.1 3) (u.1 4) (u.1 5) (u.1 6) (u.1 7) (u.1 8) (u.1 10) (u.1 13) (u.1 14) (u.1 15) (u.1 16) (u.1 17) (u.1 18) (u.1 19) (u.1 20) (u.1 21) (u.1 22) (u.1 23) (u.1 24) (u.1 25) (u.1 26) (u.1 27) (u.1 28) (u.1 29) (u.1 30) (u.1 31) (u.1 32) (u.1 33) (u.1 34) (u.1 35) (u.1 36) (u.1 37) (u.1 38) (u.1 39) (u.1 40) (u.1 41) (u.1 42) (u.1 43) (u.1 49) (u.1 50) (u.1 51) (u.1 52) (u.1 53) (u.1 54) (u.1 55) (u.1 56) (u.1 57) (u.1 58) (u.1 59) (u.2 9) (u.2 11) (u.2 12) (u.2 44) (u.2 45) (u.2 46) (u.2 47) (u.2 48)) ∧ I10 kp u.1 u.2) (va_A (w10 h0 X C (F 0) (F 1) (F 2) (F 3) (F 4) (F 5) (F 6) (F 7) (F 8) (F 10) (F 13) (F 14) (F 15) (F 16) (F 17) (F 18) (F 19) (F 20) (F 21) (F 22) (F 23) (F 24) (F 25) (F 26) (F 27) (F 28) (F 29) (F 30) (F 31) (F 32) (F 33) (F 34) (F 35) (F 36) (F 37) (F 38) (F 39) (F 40) (F 41) (F 42) (F 43) (F 49) (F 50) (F 51) (F 52) (F 53) (F 54) (F 55) (F 56) (F 57) (F 58) (F 59) (n 9) (n 11) (n 12) (n 44) (n 45) (n 46) (n 47) (n 48)) sz)) 0 0 (va_A (w10 h0 X C (F 0) (F 1) (F 2) (F 3) (F 4) (F 5) (F 6) (F 7) (F 8) (F 10) (F 13) (F 14) (F 15) (F 16) (F 17) (F 18) (F 19) (F 20) (F 21) (F 22) (F 23) (F 24) (F 25) (F 26) (F 27) (F 28) (F 29) (F 30) (F 31) (F 32) (F 33) (F 34) (F 35) (F 36) (F 37) (F 38) (F 39) (F 40) (F 41) (F 42) (F 43) (F 49) (F 50) (F 51) (F 52) (F 53) (F 54) (F 55) (F 56) (F 57) (F 58) (F 59) (n 9) (n 11) (n 12) (n 44) (n 45) (n 46) (n 47) (n 48)) sz) := by
  refine Met.ofW (cc := cX10_interrupt) (maxL := 3) (ret := (some .boolean)) (by decide) rfl ?_
  intro p e s m args below meth c s₁ B hml hv
  obtain ⟨rfl, hsz, hP, hK, hD0, hN⟩ := hv
  have hx := B.exec
  have hb := B.bytes
  have hr := B.returns
  have hts := atoms_spec (ws := .code yX10_interrupt cX10_interrupt 3 (some .boolean) :: gw) B.pre
  have hg : ∀ w ∈ gw, w.before _ s = true := fun w h => hts w (List.mem_cons_of_mem _ h)
  have hown : s.vm.findClass RX10 = some m.cls := findClass_of_methodNamed B.named
  have hlocks := B.notSynchronized
  subst hsz
  have hD := hD0.self (sz := s.heap.size)
  generalize hAe : va_A (w10 h0 X C (F 0) (F 1) (F 2) (F 3) (F 4) (F 5) (F 6) (F 7) (F 8) (F 10) (F 13) (F 14) (F 15) (F 16) (F 17) (F 18) (F 19) (F 20) (F 21) (F 22) (F 23) (F 24) (F 25) (F 26) (F 27) (F 28) (F 29) (F 30) (F 31) (F 32) (F 33) (F 34) (F 35) (F 36) (F 37) (F 38) (F 39) (F 40) (F 41) (F 42) (F 43) (F 49) (F 50) (F 51) (F 52) (F 53) (F 54) (F 55) (F 56) (F 57) (F 58) (F 59) (n 9) (n 11) (n 12) (n 44) (n 45) (n 46) (n 47) (n 48)) s.heap.size = A at hD ⊢
  have hA : ∀ q : Nat, s.heap.size ≤ q → A q := fun q h => by rw [← hAe]; exact Or.inr h
  have hS : va_S A s.heap s.heap [] := va_S.rf
  have hP : va_P (dC, dI) vwCl (w10 h0 X C (F 0) (F 1) (F 2) (F 3) (F 4) (F 5) (F 6) (F 7) (F 8) (F 10) (F 13) (F 14) (F 15) (F 16) (F 17) (F 18) (F 19) (F 20) (F 21) (F 22) (F 23) (F 24) (F 25) (F 26) (F 27) (F 28) (F 29) (F 30) (F 31) (F 32) (F 33) (F 34) (F 35) (F 36) (F 37) (F 38) (F 39) (F 40) (F 41) (F 42) (F 43) (F 49) (F 50) (F 51) (F 52) (F 53) (F 54) (F 55) (F 56) (F 57) (F 58) (F 59) (n 9) (n 11) (n 12) (n 44) (n 45) (n 46) (n 47) (n 48)) s.heap := hP
  have hl := lv_entry ([.ref h0, .int v1]) (n := 3) (Nat.le_of_ble_eq_true rfl)
  rw [lg_entry_eq]
  generalize (lg_sl ([.ref h0, .int v1]) ++ List.replicate (3 - (lg_sl ([.ref h0, .int v1])).length) Slot.unset).toArray = ls at hl ⊢
  have hl : lv_has ls 3 [(0, .ref h0), (1, .int v1)] := hl
  obtain ⟨b_1, b_2, b_3, b_4, b_5, b_6, b_7, b_8, b_9, b_10, b_11, b_12, i_13, i_14, i_15, i_16, i_17, i_18, i_19, j_20, j_21, j_22, j_23, j_24, j_25, j_26, j_27, j_28, j_29⟩ := id hI
  refine lv_aload_n hx hb dX10_interrupt_0 rfl (lv_at hl 0 rfl) ?_
  refine lv_iload_n hx hb dX10_interrupt_1 rfl (lv_at hl 1 rfl) ?_
  have hFc := free_all hD hS hA
  refine va_calli (va_runV (As := [.int v1]) (rest := []) ⟨hx, hb, hml, hown, hg⟩ (c_X10_isRun l dC dI kp h0 X C F n v1 s.heap.size ⟨b_1, b_2, b_3, b_4, b_5, b_6, b_7, b_8, b_9, b_10, b_11, b_12, i_13, i_14, i_15, i_16, i_17, i_18, i_19, j_20, j_21, j_22, j_23, j_24, j_25, j_26, j_27, j_28, j_29⟩) (cwV 1 hg (gw_V gm_methodLink_RX10_276_yX10_isRun gm_instanceMethod_yX10_isRun gm_selects_RX10_yX10_isRun_yX10_isRun gm_initialized_RX10 gm_code_yX10_isRun_cX10_isRun_2_some_boolean_) rfl rfl rfl (by decide +kernel) ⟨Nat.le_of_ble_eq_true rfl, Nat.le_of_ble_eq_true rfl⟩) ⟨fun a U g mk q => by obtain ⟨q0, q1, qP, qK, qD, qN⟩ := q; exact ⟨q0, q1, qP, va_K.moved (u := U) (U := U.calling g mk a) (Vm.Alike.refl U.vm) qK, qD, nx_same (u := U) (U := U.calling g mk a) rfl qN⟩, va_recv hK hP (ci := 10) (q0 := 0) rfl rfl, fun U hU hW => ⟨rfl, by rw [hU], by rw [hU]; exact hP, va_K.moved hW.alike hK, hD.weaken (fun _ _ _ _ => trivial), nx_warm hW hN⟩⟩ rfl rfl hl.1 rfl (lv_room (Nat.le_of_ble_eq_true rfl)) dX10_interrupt_2 ⟨Nat.le_of_ble_eq_true rfl, Nat.le_of_ble_eq_true rfl⟩) hS (fun q _ h => hFc q h) hFc (fun r_30 u_31 t H1 locs ht hvm hw hB hz1 hk1 hS => ?_)
  obtain ⟨hP, hD⟩ := hB
  rw [ht] at hP
  have hD := hD.weaken (fun k q _ h => hFc _ h)
  generalize H1 = H at hP hS ⊢
  have hP : va_P (dC, dI) vwCl (w10 h0 X C (F 0) (F 1) (F 2) (F 3) (F 4) (F 5) (F 6) (F 7) (F 8) (F 10) (F 13) (F 14) (F 15) (F 16) (F 17) (F 18) (F 19) (F 20) (F 21) (F 22) (F 23) (F 24) (F 25) (F 26) (F 27) (F 28) (F 29) (F 30) (F 31) (F 32) (F 33) (F 34) (F 35) (F 36) (F 37) (F 38) (F 39) (F 40) (F 41) (F 42) (F 43) (F 49) (F 50) (F 51) (F 52) (F 53) (F 54) (F 55) (F 56) (F 57) (F 58) (F 59) (n 9) (n 11) (n 12) (n 44) (n 45) (n 46) (n 47) (n 48)) H := hP
  have hD : va_D A (w10 h0 X C (F 0) (F 1) (F 2) (F 3) (F 4) (F 5) (F 6) (F 7) (F 8) (F 10) (F 13) (F 14) (F 15) (F 16) (F 17) (F 18) (F 19) (F 20) (F 21) (F 22) (F 23) (F 24) (F 25) (F 26) (F 27) (F 28) (F 29) (F 30) (F 31) (F 32) (F 33) (F 34) (F 35) (F 36) (F 37) (F 38) (F 39) (F 40) (F 41) (F 42) (F 43) (F 49) (F 50) (F 51) (F 52) (F 53) (F 54) (F 55) (F 56) (F 57) (F 58) (F 59) (n 9) (n 11) (n 12) (n 44) (n 45) (n 46) (n 47) (n 48)) := hD
  rcases hw with ⟨rfl, w_32⟩ | ⟨rfl, w_32⟩
  · have w_32 : (0 ≤ v1.toInt ∧ v1.toInt < ((n 11)).toInt) := w_32
    try simp only [upd_eq] at w_32
    refine lv_if_eq (tgt := 25) hx hb dX10_interrupt_5 (by decide) (fun c_33 => absurd c_33 (by decide)) (fun _ => ?_)
    refine lv_aload_n hx hb dX10_interrupt_8 rfl (lv_at hl 0 rfl) ?_
    refine lv_iload_n hx hb dX10_interrupt_9 rfl (lv_at hl 1 rfl) ?_
    have hFc := free_all hD hS hA
    refine va_calli (va_runV (As := [.int v1]) (rest := []) ⟨hx, hb, hml, hown, hg⟩ (c_X10_isOver l dC dI kp h0 X C F n v1 H.size ⟨b_1, b_2, b_3, b_4, b_5, b_6, b_7, b_8, b_9, b_10, b_11, b_12, i_13, i_14, i_15, i_16, i_17, i_18, i_19, j_20, j_21, j_22, j_23, j_24, j_25, j_26, j_27, j_28, j_29⟩ (by omega)) (cwV 1 hg (gw_V gm_methodLink_RX10_215_yX10_isOver gm_instanceMethod_yX10_isOver gm_selects_RX10_yX10_isOver_yX10_isOver gm_initialized_RX10 gm_code_yX10_isOver_cX10_isOver_2_some_boolean_) rfl rfl rfl (by decide +kernel) ⟨Nat.le_of_ble_eq_true rfl, Nat.le_of_ble_eq_true rfl⟩) ⟨fun a U g mk q => by obtain ⟨q0, q1, qP, qK, qD, qN⟩ := q; exact ⟨q0, q1, qP, va_K.moved (u := U) (U := U.calling g mk a) (Vm.Alike.refl U.vm) qK, qD, nx_same (u := U) (U := U.calling g mk a) rfl qN⟩, va_recv hK hP (ci := 10) (q0 := 0) rfl rfl, fun U hU hW => ⟨rfl, by rw [hU], by rw [hU]; exact hP, va_K.moved hW.alike hK, hD.weaken (fun _ _ _ _ => trivial), nx_warm hW hN⟩⟩ rfl rfl hl.1 rfl (lv_room (Nat.le_of_ble_eq_true rfl)) dX10_interrupt_10 ⟨Nat.le_of_ble_eq_true rfl, Nat.le_of_ble_eq_true rfl⟩) hS (fun q _ h => hFc q h) hFc (fun r_34 u_35 t H1 locs ht hvm hw hB hz1 hk1 hS => ?_)
    obtain ⟨hP, hD⟩ := hB
    rw [ht] at hP
    have hD := hD.weaken (fun k q _ h => hFc _ h)
    generalize H1 = H at hP hS ⊢
    have hP : va_P (dC, dI) vwCl (w10 h0 X C (F 0) (F 1) (F 2) (F 3) (F 4) (F 5) (F 6) (F 7) (F 8) (F 10) (F 13) (F 14) (F 15) (F 16) (F 17) (F 18) (F 19) (F 20) (F 21) (F 22) (F 23) (F 24) (F 25) (F 26) (F 27) (F 28) (F 29) (F 30) (F 31) (F 32) (F 33) (F 34) (F 35) (F 36) (F 37) (F 38) (F 39) (F 40) (F 41) (F 42) (F 43) (F 49) (F 50) (F 51) (F 52) (F 53) (F 54) (F 55) (F 56) (F 57) (F 58) (F 59) (n 9) (n 11) (n 12) (n 44) (n 45) (n 46) (n 47) (n 48)) H := hP
    have hD : va_D A (w10 h0 X C (F 0) (F 1) (F 2) (F 3) (F 4) (F 5) (F 6) (F 7) (F 8) (F 10) (F 13) (F 14) (F 15) (F 16) (F 17) (F 18) (F 19) (F 20) (F 21) (F 22) (F 23) (F 24) (F 25) (F 26) (F 27) (F 28) (F 29) (F 30) (F 31) (F 32) (F 33) (F 34) (F 35) (F 36) (F 37) (F 38) (F 39) (F 40) (F 41) (F 42) (F 43) (F 49) (F 50) (F 51) (F 52) (F 53) (F 54) (F 55) (F 56) (F 57) (F 58) (F 59) (n 9) (n 11) (n 12) (n 44) (n 45) (n 46) (n 47) (n 48)) := hD
    rcases hw with ⟨rfl, w_36⟩ | ⟨rfl, w_36⟩
    · refine lv_if_ne (tgt := 25) hx hb dX10_interrupt_13 (by decide) (fun _ => ?_) (fun c_37 => absurd c_37 (by decide))
      refine lv_iconst (v := 0) hx hb dX10_interrupt_25 (by decide) ?_
      exact W.zret (v := 0) hx hb hr rfl (fun t ht hW => ⟨⟨0, (F, n), rfl, (Or.inr ⟨rfl, by show ((n 11)).toInt = (n 11).toInt; omega⟩), by rw [ht]; exact hP, hD, ⟨b_1, b_2, b_3, b_4, b_5, b_6, b_7, b_8, b_9, b_10, b_11, b_12, i_13, i_14, i_15, i_16, i_17, i_18, i_19, j_20, j_21, j_22, j_23, j_24, j_25, j_26, j_27, j_28, j_29⟩⟩, hS.F ht⟩) hS.2.2 dX10_interrupt_26
    · refine lv_if_ne (tgt := 25) hx hb dX10_interrupt_13 (by decide) (fun c_38 => absurd c_38 (by decide)) (fun _ => ?_)
      refine lv_aload_n hx hb dX10_interrupt_16 rfl (lv_at hl 0 rfl) ?_
      refine va_get (D := (dC, dI)) (ci := 10) (v := .ref (X 25)) (C := RX10) (T := TX10) (N := 60) hx hb hg gb_10 hown hK hP 0 rfl rfl 25 (by decide) (hg _ gm_fieldLink_RX10_81_ErrandGuildModel_isTold_AZ_) (fun _ h9 => h9) rfl dX10_interrupt_17 ?_
      refine lv_iload_n hx hb dX10_interrupt_20 rfl (lv_at hl 1 rfl) ?_
      refine va_zald (f := F 25) hx hb hK hP 23 22 rfl rfl (vp_in_iff.mpr ⟨by omega, by omega⟩) dX10_interrupt_21 ?_
      refine lv_topi (fun z_39 ez_39 => ?_)
      have qz_39 := congrArg Int32.toInt ez_39
      refine lv_if_eq (tgt := 27) hx hb dX10_interrupt_22 (by decide) (fun c_40 => ?_) (fun c_40 => ?_)
      · simp only [i_lt, i_le, i_eq, ti_0] at c_40
        refine lv_aload_n hx hb dX10_interrupt_27 rfl (lv_at hl 0 rfl) ?_
        refine va_get (D := (dC, dI)) (ci := 10) (v := .ref (X 25)) (C := RX10) (T := TX10) (N := 60) hx hb hg gb_10 hown hK hP 0 rfl rfl 25 (by decide) (hg _ gm_fieldLink_RX10_81_ErrandGuildModel_isTold_AZ_) (fun _ h9 => h9) rfl dX10_interrupt_28 ?_
        refine lv_iload_n hx hb dX10_interrupt_31 rfl (lv_at hl 1 rfl) ?_
        refine lv_iconst (v := 1) hx hb dX10_interrupt_32 (by decide) ?_
        refine va_zast (f := F 25) hx hb hK hP hD hS 23 22 rfl rfl (vp_in_iff.mpr ⟨by omega, by omega⟩) dX10_interrupt_33 (fun H locs hP hD hS => ?_)
        have hP : va_P (dC, dI) vwCl (w10 h0 X C (F 0) (F 1) (F 2) (F 3) (F 4) (F 5) (F 6) (F 7) (F 8) (F 10) (F 13) (F 14) (F 15) (F 16) (F 17) (F 18) (F 19) (F 20) (F 21) (F 22) (F 23) (F 24) (upd (F 25) (Int32.toNatClampNeg v1) (vp_nar .boolean 1)) (F 26) (F 27) (F 28) (F 29) (F 30) (F 31) (F 32) (F 33) (F 34) (F 35) (F 36) (F 37) (F 38) (F 39) (F 40) (F 41) (F 42) (F 43) (F 49) (F 50) (F 51) (F 52) (F 53) (F 54) (F 55) (F 56) (F 57) (F 58) (F 59) (n 9) (n 11) (n 12) (n 44) (n 45) (n 46) (n 47) (n 48)) H := hP
        have hD : va_D A (w10 h0 X C (F 0) (F 1) (F 2) (F 3) (F 4) (F 5) (F 6) (F 7) (F 8) (F 10) (F 13) (F 14) (F 15) (F 16) (F 17) (F 18) (F 19) (F 20) (F 21) (F 22) (F 23) (F 24) (upd (F 25) (Int32.toNatClampNeg v1) (vp_nar .boolean 1)) (F 26) (F 27) (F 28) (F 29) (F 30) (F 31) (F 32) (F 33) (F 34) (F 35) (F 36) (F 37) (F 38) (F 39) (F 40) (F 41) (F 42) (F 43) (F 49) (F 50) (F 51) (F 52) (F 53) (F 54) (F 55) (F 56) (F 57) (F 58) (F 59) (n 9) (n 11) (n 12) (n 44) (n 45) (n 46) (n 47) (n 48)) := hD
        refine lv_aload_n hx hb dX10_interrupt_34 rfl (lv_at hl 0 rfl) ?_
        refine va_get (D := (dC, dI)) (ci := 10) (v := .ref (X 13)) (C := RX10) (T := TX10) (N := 60) hx hb hg gb_10 hown hK hP 0 rfl rfl 13 (by decide) (hg _ gm_fieldLink_RX10_45_ErrandGuildModel_state_AI_) (fun _ h9 => h9) rfl dX10_interrupt_35 ?_
        refine lv_iload_n hx hb dX10_interrupt_38 rfl (lv_at hl 1 rfl) ?_
        refine va_iald (f := F 13) hx hb hK hP 11 10 rfl rfl (vp_in_iff.mpr ⟨by omega, by omega⟩) dX10_interrupt_39 ?_
        refine lv_topi (fun z_41 ez_41 => ?_)
        have qz_41 := congrArg Int32.toInt ez_41
        have bz_41 := bd_at b_3 ez_41
        refine lv_iconst (v := 2) hx hb dX10_interrupt_40 (by decide) ?_
        refine lv_icmp_ne (tgt := 51) hx hb dX10_interrupt_41 (by decide) (fun c_42 => ?_) (fun c_42 => ?_)
        · simp only [i_lt, i_le, i_eq, ti_2] at c_42
          refine lv_aload_n hx hb dX10_interrupt_51 rfl (lv_at hl 0 rfl) ?_
          refine va_get (D := (dC, dI)) (ci := 10) (v := .ref (X 24)) (C := RX10) (T := TX10) (N := 60) hx hb hg gb_10 hown hK hP 0 rfl rfl 24 (by decide) (hg _ gm_fieldLink_RX10_78_ErrandGuildModel_isBack_AZ_) (fun _ h9 => h9) rfl dX10_interrupt_52 ?_
          refine lv_iload_n hx hb dX10_interrupt_55 rfl (lv_at hl 1 rfl) ?_
          refine va_zald (f := F 24) hx hb hK hP 22 21 rfl rfl (vp_in_iff.mpr ⟨by omega, by omega⟩) dX10_interrupt_56 ?_
          refine lv_topi (fun z_43 ez_43 => ?_)
          have qz_43 := congrArg Int32.toInt ez_43
          refine lv_if_eq (tgt := 114) hx hb dX10_interrupt_57 (by decide) (fun c_44 => ?_) (fun c_44 => ?_)
          · simp only [i_lt, i_le, i_eq, ti_0] at c_44
            refine lv_iconst (v := 1) hx hb dX10_interrupt_114 (by decide) ?_
            exact W.zret (v := 1) hx hb hr rfl (fun t ht hW => ⟨⟨1, ((fun k => ([F 0, F 1, F 2, F 3, F 4, F 5, F 6, F 7, F 8, (fun _ => 0), F 10, (fun _ => 0), (fun _ => 0), F 13, F 14, F 15, F 16, F 17, F 18, F 19, F 20, F 21, F 22, F 23, F 24, upd (F 25) (Int32.toNatClampNeg v1) (vp_nar .boolean 1), F 26, F 27, F 28, F 29, F 30, F 31, F 32, F 33, F 34, F 35, F 36, F 37, F 38, F 39, F 40, F 41, F 42, F 43, (fun _ => 0), (fun _ => 0), (fun _ => 0), (fun _ => 0), (fun _ => 0), F 49, F 50, F 51, F 52, F 53, F 54, F 55, F 56, F 57, F 58, F 59] : List (Nat → Int32)).getD k (fun _ => 0)), n), rfl, (Or.inl ⟨rfl, by show ((n 11)).toInt = (n 11).toInt; omega⟩), by rw [ht]; exact hP, hD, ⟨b_1, b_2, b_3, b_4, b_5, b_6, b_7, b_8, b_9, b_10, b_11, b_12, i_13, i_14, i_15, i_16, i_17, i_18, i_19, j_20, j_21, j_22, j_23, j_24, j_25, j_26, j_27, j_28, j_29⟩⟩, hS.F ht⟩) hS.2.2 dX10_interrupt_115
          · simp only [i_lt, i_le, i_eq, ti_0] at c_44
            refine lv_iload_n hx hb dX10_interrupt_60 rfl (lv_at hl 1 rfl) ?_
            refine lv_iconst (v := 1) hx hb dX10_interrupt_61 (by decide) ?_
            refine lv_iadd hx hb dX10_interrupt_62 ?_
            refine lv_topi (fun z_45 ez_45 => ?_)
            have tz_45 : z_45.toInt = v1.toInt + 1 := ar_add rfl ti_1 ez_45 (by omega)
            refine lv_istore_n (lv' := [(2, .int z_45), (0, .ref h0), (1, .int v1)]) hx hb dX10_interrupt_63 rfl hl (by decide) rfl (fun ls hl => ?_)
            have L64 : ∀ (fuel : Nat) (x_46 : Int32) (f_47 : Nat → Int32) (f_48 : Nat → Int32) (H : Heap) (locs : List Loc) (ls : Array Slot), (201 - x_46.toInt).toNat < fuel → (1 ≤ x_46.toInt ∧ x_46.toInt ≤ 200) → va_P (dC, dI) vwCl (w10 h0 X C (F 0) (F 1) (F 2) (F 3) (F 4) (F 5) (F 6) (F 7) (F 8) (F 10) (F 13) (F 14) (F 15) (F 16) (F 17) (F 18) (F 19) (F 20) (F 21) (F 22) (F 23) (F 24) (upd (F 25) (Int32.toNatClampNeg v1) (vp_nar .boolean 1)) f_47 f_48 (F 28) (F 29) (F 30) (F 31) (F 32) (F 33) (F 34) (F 35) (F 36) (F 37) (F 38) (F 39) (F 40) (F 41) (F 42) (F 43) (F 49) (F 50) (F 51) (F 52) (F 53) (F 54) (F 55) (F 56) (F 57) (F 58) (F 59) (n 9) (n 11) (n 12) (n 44) (n 45) (n 46) (n 47) (n 48)) H → va_D A (w10 h0 X C (F 0) (F 1) (F 2) (F 3) (F 4) (F 5) (F 6) (F 7) (F 8) (F 10) (F 13) (F 14) (F 15) (F 16) (F 17) (F 18) (F 19) (F 20) (F 21) (F 22) (F 23) (F 24) (upd (F 25) (Int32.toNatClampNeg v1) (vp_nar .boolean 1)) f_47 f_48 (F 28) (F 29) (F 30) (F 31) (F 32) (F 33) (F 34) (F 35) (F 36) (F 37) (F 38) (F 39) (F 40) (F 41) (F 42) (F 43) (F 49) (F 50) (F 51) (F 52) (F 53) (F 54) (F 55) (F 56) (F 57) (F 58) (F 59) (n 9) (n 11) (n 12) (n 44) (n 45) (n 46) (n 47) (n 48)) → va_S A s.heap H locs → lv_has ls 3 [(2, .int x_46), (0, .ref h0), (1, .int v1)] → W p l e (headSpec (.code yX10_interrupt cX10_interrupt 3 (some .boolean) :: gw) ({ frames := 1, cells := 0, slots := 0, locals := 21 })).room s m ([.ref h0, .int v1] : List Value).toArray below meth c H locs 0 0 (MQ below (va_Qi (fun (r : Int32) (u : (Nat → Nat → Int32) × (Nat → Int32)) => (r = 1 ∧ (u.2 11).toInt = (n 11).toInt) ∨ (r = 0 ∧ (u.2 11).toInt = (n 11).toInt)) (fun u t => va_P (dC, dI) vwCl (w10 h0 X C (u.1 0) (u.1 1) (u.1 2) (u.1 3) (u.1 4) (u.1 5) (u.1 6) (u.1 7) (u.1 8) (u.1 10) (u.1 13) (u.1 14) (u.1 15) (u.1 16) (u.1 17) (u.1 18) (u.1 19) (u.1 20) (u.1 21) (u.1 22) (u.1 23) (u.1 24) (u.1 25) (u.1 26) (u.1 27) (u.1 28) (u.1 29) (u.1 30) (u.1 31) (u.1 32) (u.1 33) (u.1 34) (u.1 35) (u.1 36) (u.1 37) (u.1 38) (u.1 39) (u.1 40) (u.1 41) (u.1 42) (u.1 43) (u.1 49) (u.1 50) (u.1 51) (u.1 52) (u.1 53) (u.1 54) (u.1 55) (u.1 56) (u.1 57) (u.1 58) (u.1 59) (u.2 9) (u.2 11) (u.2 12) (u.2 44) (u.2 45) (u.2 46) (u.2 47) (u.2 48)) t.heap ∧ va_D A (w10 h0 X C (u.1 0) (u.1 1) (u.1 2) (u.1 3) (u.1 4) (u.1 5) (u.1 6) (u.1 7) (u.1 8) (u.1 10) (u.1 13) (u.1 14) (u.1 15) (u.1 16) (u.1 17) (u.1 18) (u.1 19) (u.1 20) (u.1 21) (u.1 22) (u.1 23) (u.1 24) (u.1 25) (u.1 26) (u.1 27) (u.1 28) (u.1 29) (u.1 30) (u.1 31) (u.1 32) (u.1 33) (u.1 34) (u.1 35) (u.1 36) (u.1 37) (u.1 38) (u.1 39) (u.1 40) (u.1 41) (u.1 42) (u.1 43) (u.1 49) (u.1 50) (u.1 51) (u.1 52) (u.1 53) (u.1 54) (u.1 55) (u.1 56) (u.1 57) (u.1 58) (u.1 59) (u.2 9) (u.2 11) (u.2 12) (u.2 44) (u.2 45) (u.2 46) (u.2 47) (u.2 48)) ∧ I10 kp u.1 u.2) A) ([.ref h0, .int v1] : List Value).toArray s 0 0 A) (F0 m 64 ls []) := by
              intro fuel
              induction fuel with
              | zero => intro x_46 f_47 f_48 H locs ls hm; exact absurd hm (Nat.not_lt_zero _)
              | succ fuel_50 ih_49 =>
                intro x_46 f_47 f_48 H locs ls hm_52 v_51 hP hD hS hl
                refine lv_iload_n hx hb dX10_interrupt_64 rfl (lv_at hl 0 rfl) ?_
                refine lv_aload_n hx hb dX10_interrupt_65 rfl (lv_at hl 1 rfl) ?_
                refine va_get (D := (dC, dI)) (ci := 10) (v := .int (n 11)) (C := RX10) (T := TX10) (N := 60) hx hb hg gb_10 hown hK hP 0 rfl rfl 11 (by decide) (hg _ gm_fieldLink_RX10_176_ErrandGuildModel_runs_I_) (fun _ h9 => h9) rfl dX10_interrupt_66 ?_
                refine lv_icmp_ge (tgt := 114) hx hb dX10_interrupt_69 (by decide) (fun c_53 => ?_) (fun c_53 => ?_)
                · simp only [i_lt, i_le, i_eq] at c_53
                  refine lv_iconst (v := 1) hx hb dX10_interrupt_114 (by decide) ?_
                  exact W.zret (v := 1) hx hb hr rfl (fun t ht hW => ⟨⟨1, ((fun k => ([F 0, F 1, F 2, F 3, F 4, F 5, F 6, F 7, F 8, (fun _ => 0), F 10, (fun _ => 0), (fun _ => 0), F 13, F 14, F 15, F 16, F 17, F 18, F 19, F 20, F 21, F 22, F 23, F 24, upd (F 25) (Int32.toNatClampNeg v1) (vp_nar .boolean 1), f_47, f_48, F 28, F 29, F 30, F 31, F 32, F 33, F 34, F 35, F 36, F 37, F 38, F 39, F 40, F 41, F 42, F 43, (fun _ => 0), (fun _ => 0), (fun _ => 0), (fun _ => 0), (fun _ => 0), F 49, F 50, F 51, F 52, F 53, F 54, F 55, F 56, F 57, F 58, F 59] : List (Nat → Int32)).getD k (fun _ => 0)), n), rfl, (Or.inl ⟨rfl, by show ((n 11)).toInt = (n 11).toInt; omega⟩), by rw [ht]; exact hP, hD, ⟨b_1, b_2, b_3, b_4, b_5, b_6, b_7, b_8, b_9, b_10, b_11, b_12, i_13, i_14, i_15, i_16, i_17, i_18, i_19, j_20, j_21, j_22, j_23, j_24, j_25, j_26, j_27, j_28, j_29⟩⟩, hS.F ht⟩) hS.2.2 dX10_interrupt_115
                · simp only [i_lt, i_le, i_eq] at c_53
                  refine lv_aload_n hx hb dX10_interrupt_72 rfl (lv_at hl 1 rfl) ?_
                  refine va_get (D := (dC, dI)) (ci := 10) (v := .ref (X 15)) (C := RX10) (T := TX10) (N := 60) hx hb hg gb_10 hown hK hP 0 rfl rfl 15 (by decide) (hg _ gm_fieldLink_RX10_51_ErrandGuildModel_giver_AI_) (fun _ h9 => h9) rfl dX10_interrupt_73 ?_
                  refine lv_iload_n hx hb dX10_interrupt_76 rfl (lv_at hl 0 rfl) ?_
                  refine va_iald (f := F 15) hx hb hK hP 13 12 rfl rfl (vp_in_iff.mpr ⟨by omega, by omega⟩) dX10_interrupt_77 ?_
                  refine lv_topi (fun z_54 ez_54 => ?_)
                  have qz_54 := congrArg Int32.toInt ez_54
                  have bz_54 := bd_at b_5 ez_54
                  refine lv_iload_n hx hb dX10_interrupt_78 rfl (lv_at hl 2 rfl) ?_
                  refine lv_icmp_ne (tgt := 108) hx hb dX10_interrupt_79 (by decide) (fun c_55 => ?_) (fun c_55 => ?_)
                  · simp only [i_lt, i_le, i_eq] at c_55
                    obtain ⟨y_56, ey_56⟩ : ∃ q : Int32, q = x_46 + (1) := ⟨_, rfl⟩
                    refine lv_iinc (v := y_56) (lv' := [(2, .int y_56), (0, .ref h0), (1, .int v1)]) hx hb dX10_interrupt_108 hl (k := 0) rfl (by rw [ey_56]; rfl) (by decide) rfl (fun ls hl => ?_)
                    have ty_56 : y_56.toInt = x_46.toInt + (1) := ar_add rfl ti_1 ey_56 (by omega)
                    refine lv_goto (tgt := 64) hx hb dX10_interrupt_111 (by decide) ?_
                    exact ih_49 y_56 f_47 f_48  H locs ls (by omega) (by omega) hP hD hS (lv_sub hl [0, 1, 2] rfl)
                  · simp only [i_lt, i_le, i_eq] at c_55
                    refine lv_aload_n hx hb dX10_interrupt_82 rfl (lv_at hl 1 rfl) ?_
                    refine va_get (D := (dC, dI)) (ci := 10) (v := .ref (X 27)) (C := RX10) (T := TX10) (N := 60) hx hb hg gb_10 hown hK hP 0 rfl rfl 27 (by decide) (hg _ gm_fieldLink_RX10_87_ErrandGuildModel_isAwaited_AZ_) (fun _ h9 => h9) rfl dX10_interrupt_83 ?_
                    refine lv_iload_n hx hb dX10_interrupt_86 rfl (lv_at hl 0 rfl) ?_
                    refine va_zald (f := f_48) hx hb hK hP 25 24 rfl rfl (vp_in_iff.mpr ⟨by omega, by omega⟩) dX10_interrupt_87 ?_
                    refine lv_topi (fun z_57 ez_57 => ?_)
                    have qz_57 := congrArg Int32.toInt ez_57
                    refine lv_if_ne (tgt := 94) hx hb dX10_interrupt_88 (by decide) (fun c_58 => ?_) (fun c_58 => ?_)
                    · simp only [i_lt, i_le, i_eq, ti_0] at c_58
                      refine lv_aload_n hx hb dX10_interrupt_94 rfl (lv_at hl 1 rfl) ?_
                      refine va_get (D := (dC, dI)) (ci := 10) (v := .ref (X 27)) (C := RX10) (T := TX10) (N := 60) hx hb hg gb_10 hown hK hP 0 rfl rfl 27 (by decide) (hg _ gm_fieldLink_RX10_87_ErrandGuildModel_isAwaited_AZ_) (fun _ h9 => h9) rfl dX10_interrupt_95 ?_
                      refine lv_iload_n hx hb dX10_interrupt_98 rfl (lv_at hl 0 rfl) ?_
                      refine lv_iconst (v := 0) hx hb dX10_interrupt_99 (by decide) ?_
                      refine va_zast (f := f_48) hx hb hK hP hD hS 25 24 rfl rfl (vp_in_iff.mpr ⟨by omega, by omega⟩) dX10_interrupt_100 (fun H locs hP hD hS => ?_)
                      have hP : va_P (dC, dI) vwCl (w10 h0 X C (F 0) (F 1) (F 2) (F 3) (F 4) (F 5) (F 6) (F 7) (F 8) (F 10) (F 13) (F 14) (F 15) (F 16) (F 17) (F 18) (F 19) (F 20) (F 21) (F 22) (F 23) (F 24) (upd (F 25) (Int32.toNatClampNeg v1) (vp_nar .boolean 1)) f_47 (upd f_48 (Int32.toNatClampNeg x_46) (vp_nar .boolean 0)) (F 28) (F 29) (F 30) (F 31) (F 32) (F 33) (F 34) (F 35) (F 36) (F 37) (F 38) (F 39) (F 40) (F 41) (F 42) (F 43) (F 49) (F 50) (F 51) (F 52) (F 53) (F 54) (F 55) (F 56) (F 57) (F 58) (F 59) (n 9) (n 11) (n 12) (n 44) (n 45) (n 46) (n 47) (n 48)) H := hP
                      have hD : va_D A (w10 h0 X C (F 0) (F 1) (F 2) (F 3) (F 4) (F 5) (F 6) (F 7) (F 8) (F 10) (F 13) (F 14) (F 15) (F 16) (F 17) (F 18) (F 19) (F 20) (F 21) (F 22) (F 23) (F 24) (upd (F 25) (Int32.toNatClampNeg v1) (vp_nar .boolean 1)) f_47 (upd f_48 (Int32.toNatClampNeg x_46) (vp_nar .boolean 0)) (F 28) (F 29) (F 30) (F 31) (F 32) (F 33) (F 34) (F 35) (F 36) (F 37) (F 38) (F 39) (F 40) (F 41) (F 42) (F 43) (F 49) (F 50) (F 51) (F 52) (F 53) (F 54) (F 55) (F 56) (F 57) (F 58) (F 59) (n 9) (n 11) (n 12) (n 44) (n 45) (n 46) (n 47) (n 48)) := hD
                      refine lv_aload_n hx hb dX10_interrupt_101 rfl (lv_at hl 1 rfl) ?_
                      refine va_get (D := (dC, dI)) (ci := 10) (v := .ref (X 26)) (C := RX10) (T := TX10) (N := 60) hx hb hg gb_10 hown hK hP 0 rfl rfl 26 (by decide) (hg _ gm_fieldLink_RX10_84_ErrandGuildModel_wasWaited_AZ_) (fun _ h9 => h9) rfl dX10_interrupt_102 ?_
                      refine lv_iload_n hx hb dX10_interrupt_105 rfl (lv_at hl 0 rfl) ?_
                      refine lv_iconst (v := 1) hx hb dX10_interrupt_106 (by decide) ?_
                      refine va_zast (f := f_47) hx hb hK hP hD hS 24 23 rfl rfl (vp_in_iff.mpr ⟨by omega, by omega⟩) dX10_interrupt_107 (fun H locs hP hD hS => ?_)
                      have hP : va_P (dC, dI) vwCl (w10 h0 X C (F 0) (F 1) (F 2) (F 3) (F 4) (F 5) (F 6) (F 7) (F 8) (F 10) (F 13) (F 14) (F 15) (F 16) (F 17) (F 18) (F 19) (F 20) (F 21) (F 22) (F 23) (F 24) (upd (F 25) (Int32.toNatClampNeg v1) (vp_nar .boolean 1)) (upd f_47 (Int32.toNatClampNeg x_46) (vp_nar .boolean 1)) (upd f_48 (Int32.toNatClampNeg x_46) (vp_nar .boolean 0)) (F 28) (F 29) (F 30) (F 31) (F 32) (F 33) (F 34) (F 35) (F 36) (F 37) (F 38) (F 39) (F 40) (F 41) (F 42) (F 43) (F 49) (F 50) (F 51) (F 52) (F 53) (F 54) (F 55) (F 56) (F 57) (F 58) (F 59) (n 9) (n 11) (n 12) (n 44) (n 45) (n 46) (n 47) (n 48)) H := hP
                      have hD : va_D A (w10 h0 X C (F 0) (F 1) (F 2) (F 3) (F 4) (F 5) (F 6) (F 7) (F 8) (F 10) (F 13) (F 14) (F 15) (F 16) (F 17) (F 18) (F 19) (F 20) (F 21) (F 22) (F 23) (F 24) (upd (F 25) (Int32.toNatClampNeg v1) (vp_nar .boolean 1)) (upd f_47 (Int32.toNatClampNeg x_46) (vp_nar .boolean 1)) (upd f_48 (Int32.toNatClampNeg x_46) (vp_nar .boolean 0)) (F 28) (F 29) (F 30) (F 31) (F 32) (F 33) (F 34) (F 35) (F 36) (F 37) (F 38) (F 39) (F 40) (F 41) (F 42) (F 43) (F 49) (F 50) (F 51) (F 52) (F 53) (F 54) (F 55) (F 56) (F 57) (F 58) (F 59) (n 9) (n 11) (n 12) (n 44) (n 45) (n 46) (n 47) (n 48)) := hD
                      obtain ⟨y_59, ey_59⟩ : ∃ q : Int32, q = x_46 + (1) := ⟨_, rfl⟩
                      refine lv_iinc (v := y_59) (lv' := [(2, .int y_59), (0, .ref h0), (1, .int v1)]) hx hb dX10_interrupt_108 hl (k := 0) rfl (by rw [ey_59]; rfl) (by decide) rfl (fun ls hl => ?_)
                      have ty_59 : y_59.toInt = x_46.toInt + (1) := ar_add rfl ti_1 ey_59 (by omega)
                      refine lv_goto (tgt := 64) hx hb dX10_interrupt_111 (by decide) ?_
                      exact ih_49 y_59 (upd f_47 (Int32.toNatClampNeg x_46) (vp_nar .boolean 1)) (upd f_48 (Int32.toNatClampNeg x_46) (vp_nar .boolean 0))  H locs ls (by omega) (by omega) hP hD hS (lv_sub hl [0, 1, 2] rfl)
                    · simp only [i_lt, i_le, i_eq, ti_0] at c_58
                      refine lv_goto (tgt := 108) hx hb dX10_interrupt_91 (by decide) ?_
                      obtain ⟨y_60, ey_60⟩ : ∃ q : Int32, q = x_46 + (1) := ⟨_, rfl⟩
                      refine lv_iinc (v := y_60) (lv' := [(2, .int y_60), (0, .ref h0), (1, .int v1)]) hx hb dX10_interrupt_108 hl (k := 0) rfl (by rw [ey_60]; rfl) (by decide) rfl (fun ls hl => ?_)
                      have ty_60 : y_60.toInt = x_46.toInt + (1) := ar_add rfl ti_1 ey_60 (by omega)
                      refine lv_goto (tgt := 64) hx hb dX10_interrupt_111 (by decide) ?_
                      exact ih_49 y_60 f_47 f_48  H locs ls (by omega) (by omega) hP hD hS (lv_sub hl [0, 1, 2] rfl)
            exact L64 _ z_45 (F 26) (F 27)  _ _ _ (Nat.lt_succ_self _) (by omega) hP hD hS (lv_sub hl [0, 1, 2] rfl)
        · simp only [i_lt, i_le, i_eq, ti_2] at c_42
          refine lv_aload_n hx hb dX10_interrupt_44 rfl (lv_at hl 0 rfl) ?_
          refine va_get (D := (dC, dI)) (ci := 10) (v := .ref (X 13)) (C := RX10) (T := TX10) (N := 60) hx hb hg gb_10 hown hK hP 0 rfl rfl 13 (by decide) (hg _ gm_fieldLink_RX10_45_ErrandGuildModel_state_AI_) (fun _ h9 => h9) rfl dX10_interrupt_45 ?_
          refine lv_iload_n hx hb dX10_interrupt_48 rfl (lv_at hl 1 rfl) ?_
          refine lv_iconst (v := 0) hx hb dX10_interrupt_49 (by decide) ?_
          refine va_iast (f := F 13) hx hb hK hP hD hS 11 10 rfl rfl (vp_in_iff.mpr ⟨by omega, by omega⟩) dX10_interrupt_50 (fun H locs hP hD hS => ?_)
          have hP : va_P (dC, dI) vwCl (w10 h0 X C (F 0) (F 1) (F 2) (F 3) (F 4) (F 5) (F 6) (F 7) (F 8) (F 10) (upd (F 13) (Int32.toNatClampNeg v1) 0) (F 14) (F 15) (F 16) (F 17) (F 18) (F 19) (F 20) (F 21) (F 22) (F 23) (F 24) (upd (F 25) (Int32.toNatClampNeg v1) (vp_nar .boolean 1)) (F 26) (F 27) (F 28) (F 29) (F 30) (F 31) (F 32) (F 33) (F 34) (F 35) (F 36) (F 37) (F 38) (F 39) (F 40) (F 41) (F 42) (F 43) (F 49) (F 50) (F 51) (F 52) (F 53) (F 54) (F 55) (F 56) (F 57) (F 58) (F 59) (n 9) (n 11) (n 12) (n 44) (n 45) (n 46) (n 47) (n 48)) H := hP
          have hD : va_D A (w10 h0 X C (F 0) (F 1) (F 2) (F 3) (F 4) (F 5) (F 6) (F 7) (F 8) (F 10) (upd (F 13) (Int32.toNatClampNeg v1) 0) (F 14) (F 15) (F 16) (F 17) (F 18) (F 19) (F 20) (F 21) (F 22) (F 23) (F 24) (upd (F 25) (Int32.toNatClampNeg v1) (vp_nar .boolean 1)) (F 26) (F 27) (F 28) (F 29) (F 30) (F 31) (F 32) (F 33) (F 34) (F 35) (F 36) (F 37) (F 38) (F 39) (F 40) (F 41) (F 42) (F 43) (F 49) (F 50) (F 51) (F 52) (F 53) (F 54) (F 55) (F 56) (F 57) (F 58) (F 59) (n 9) (n 11) (n 12) (n 44) (n 45) (n 46) (n 47) (n 48)) := hD
          have b_61 := bd_upd b_3 (Int32.toNatClampNeg v1) (x := 0) (by have t_ := ti_0; omega) (by have t_ := ti_0; omega)
          have j_62 : J1 (upd (F 13) (Int32.toNatClampNeg v1) 0) (F 18) := J1_sa j_21 (Int32.toNatClampNeg v1) (fun h => by have t_0 := ti_0; omega)
          have j_63 : J8 (F 32) (upd (F 13) (Int32.toNatClampNeg v1) 0) := J8_sa j_28 (Int32.toNatClampNeg v1) (Or.inl (Classical.byContradiction (fun h => by have h2 := j_28 (Int32.toNatClampNeg v1) h; omega)))
          refine lv_aload_n hx hb dX10_interrupt_51 rfl (lv_at hl 0 rfl) ?_
          refine va_get (D := (dC, dI)) (ci := 10) (v := .ref (X 24)) (C := RX10) (T := TX10) (N := 60) hx hb hg gb_10 hown hK hP 0 rfl rfl 24 (by decide) (hg _ gm_fieldLink_RX10_78_ErrandGuildModel_isBack_AZ_) (fun _ h9 => h9) rfl dX10_interrupt_52 ?_
          refine lv_iload_n hx hb dX10_interrupt_55 rfl (lv_at hl 1 rfl) ?_
          refine va_zald (f := F 24) hx hb hK hP 22 21 rfl rfl (vp_in_iff.mpr ⟨by omega, by omega⟩) dX10_interrupt_56 ?_
          refine lv_topi (fun z_64 ez_64 => ?_)
          have qz_64 := congrArg Int32.toInt ez_64
          refine lv_if_eq (tgt := 114) hx hb dX10_interrupt_57 (by decide) (fun c_65 => ?_) (fun c_65 => ?_)
          · simp only [i_lt, i_le, i_eq, ti_0] at c_65
            refine lv_iconst (v := 1) hx hb dX10_interrupt_114 (by decide) ?_
            exact W.zret (v := 1) hx hb hr rfl (fun t ht hW => ⟨⟨1, ((fun k => ([F 0, F 1, F 2, F 3, F 4, F 5, F 6, F 7, F 8, (fun _ => 0), F 10, (fun _ => 0), (fun _ => 0), upd (F 13) (Int32.toNatClampNeg v1) 0, F 14, F 15, F 16, F 17, F 18, F 19, F 20, F 21, F 22, F 23, F 24, upd (F 25) (Int32.toNatClampNeg v1) (vp_nar .boolean 1), F 26, F 27, F 28, F 29, F 30, F 31, F 32, F 33, F 34, F 35, F 36, F 37, F 38, F 39, F 40, F 41, F 42, F 43, (fun _ => 0), (fun _ => 0), (fun _ => 0), (fun _ => 0), (fun _ => 0), F 49, F 50, F 51, F 52, F 53, F 54, F 55, F 56, F 57, F 58, F 59] : List (Nat → Int32)).getD k (fun _ => 0)), n), rfl, (Or.inl ⟨rfl, by show ((n 11)).toInt = (n 11).toInt; omega⟩), by rw [ht]; exact hP, hD, ⟨b_1, b_2, b_61, b_4, b_5, b_6, b_7, b_8, b_9, b_10, b_11, b_12, i_13, i_14, i_15, i_16, i_17, i_18, i_19, j_20, j_62, j_22, j_23, j_24, j_25, j_26, j_27, j_63, j_29⟩⟩, hS.F ht⟩) hS.2.2 dX10_interrupt_115
          · simp only [i_lt, i_le, i_eq, ti_0] at c_65
            refine lv_iload_n hx hb dX10_interrupt_60 rfl (lv_at hl 1 rfl) ?_
            refine lv_iconst (v := 1) hx hb dX10_interrupt_61 (by decide) ?_
            refine lv_iadd hx hb dX10_interrupt_62 ?_
            refine lv_topi (fun z_66 ez_66 => ?_)
            have tz_66 : z_66.toInt = v1.toInt + 1 := ar_add rfl ti_1 ez_66 (by omega)
            refine lv_istore_n (lv' := [(2, .int z_66), (0, .ref h0), (1, .int v1)]) hx hb dX10_interrupt_63 rfl hl (by decide) rfl (fun ls hl => ?_)
            have L64 : ∀ (fuel : Nat) (x_67 : Int32) (f_68 : Nat → Int32) (f_69 : Nat → Int32) (H : Heap) (locs : List Loc) (ls : Array Slot), (201 - x_67.toInt).toNat < fuel → (1 ≤ x_67.toInt ∧ x_67.toInt ≤ 200) → va_P (dC, dI) vwCl (w10 h0 X C (F 0) (F 1) (F 2) (F 3) (F 4) (F 5) (F 6) (F 7) (F 8) (F 10) (upd (F 13) (Int32.toNatClampNeg v1) 0) (F 14) (F 15) (F 16) (F 17) (F 18) (F 19) (F 20) (F 21) (F 22) (F 23) (F 24) (upd (F 25) (Int32.toNatClampNeg v1) (vp_nar .boolean 1)) f_68 f_69 (F 28) (F 29) (F 30) (F 31) (F 32) (F 33) (F 34) (F 35) (F 36) (F 37) (F 38) (F 39) (F 40) (F 41) (F 42) (F 43) (F 49) (F 50) (F 51) (F 52) (F 53) (F 54) (F 55) (F 56) (F 57) (F 58) (F 59) (n 9) (n 11) (n 12) (n 44) (n 45) (n 46) (n 47) (n 48)) H → va_D A (w10 h0 X C (F 0) (F 1) (F 2) (F 3) (F 4) (F 5) (F 6) (F 7) (F 8) (F 10) (upd (F 13) (Int32.toNatClampNeg v1) 0) (F 14) (F 15) (F 16) (F 17) (F 18) (F 19) (F 20) (F 21) (F 22) (F 23) (F 24) (upd (F 25) (Int32.toNatClampNeg v1) (vp_nar .boolean 1)) f_68 f_69 (F 28) (F 29) (F 30) (F 31) (F 32) (F 33) (F 34) (F 35) (F 36) (F 37) (F 38) (F 39) (F 40) (F 41) (F 42) (F 43) (F 49) (F 50) (F 51) (F 52) (F 53) (F 54) (F 55) (F 56) (F 57) (F 58) (F 59) (n 9) (n 11) (n 12) (n 44) (n 45) (n 46) (n 47) (n 48)) → va_S A s.heap H locs → lv_has ls 3 [(2, .int x_67), (0, .ref h0), (1, .int v1)] → W p l e (headSpec (.code yX10_interrupt cX10_interrupt 3 (some .boolean) :: gw) ({ frames := 1, cells := 0, slots := 0, locals := 21 })).room s m ([.ref h0, .int v1] : List Value).toArray below meth c H locs 0 0 (MQ below (va_Qi (fun (r : Int32) (u : (Nat → Nat → Int32) × (Nat → Int32)) => (r = 1 ∧ (u.2 11).toInt = (n 11).toInt) ∨ (r = 0 ∧ (u.2 11).toInt = (n 11).toInt)) (fun u t => va_P (dC, dI) vwCl (w10 h0 X C (u.1 0) (u.1 1) (u.1 2) (u.1 3) (u.1 4) (u.1 5) (u.1 6) (u.1 7) (u.1 8) (u.1 10) (u.1 13) (u.1 14) (u.1 15) (u.1 16) (u.1 17) (u.1 18) (u.1 19) (u.1 20) (u.1 21) (u.1 22) (u.1 23) (u.1 24) (u.1 25) (u.1 26) (u.1 27) (u.1 28) (u.1 29) (u.1 30) (u.1 31) (u.1 32) (u.1 33) (u.1 34) (u.1 35) (u.1 36) (u.1 37) (u.1 38) (u.1 39) (u.1 40) (u.1 41) (u.1 42) (u.1 43) (u.1 49) (u.1 50) (u.1 51) (u.1 52) (u.1 53) (u.1 54) (u.1 55) (u.1 56) (u.1 57) (u.1 58) (u.1 59) (u.2 9) (u.2 11) (u.2 12) (u.2 44) (u.2 45) (u.2 46) (u.2 47) (u.2 48)) t.heap ∧ va_D A (w10 h0 X C (u.1 0) (u.1 1) (u.1 2) (u.1 3) (u.1 4) (u.1 5) (u.1 6) (u.1 7) (u.1 8) (u.1 10) (u.1 13) (u.1 14) (u.1 15) (u.1 16) (u.1 17) (u.1 18) (u.1 19) (u.1 20) (u.1 21) (u.1 22) (u.1 23) (u.1 24) (u.1 25) (u.1 26) (u.1 27) (u.1 28) (u.1 29) (u.1 30) (u.1 31) (u.1 32) (u.1 33) (u.1 34) (u.1 35) (u.1 36) (u.1 37) (u.1 38) (u.1 39) (u.1 40) (u.1 41) (u.1 42) (u.1 43) (u.1 49) (u.1 50) (u.1 51) (u.1 52) (u.1 53) (u.1 54) (u.1 55) (u.1 56) (u.1 57) (u.1 58) (u.1 59) (u.2 9) (u.2 11) (u.2 12) (u.2 44) (u.2 45) (u.2 46) (u.2 47) (u.2 48)) ∧ I10 kp u.1 u.2) A) ([.ref h0, .int v1] : List Value).toArray s 0 0 A) (F0 m 64 ls []) := by
              intro fuel
              induction fuel with
              | zero => intro x_67 f_68 f_69 H locs ls hm; exact absurd hm (Nat.not_lt_zero _)
              | succ fuel_71 ih_70 =>
                intro x_67 f_68 f_69 H locs ls hm_73 v_72 hP hD hS hl
                refine lv_iload_n hx hb dX10_interrupt_64 rfl (lv_at hl 0 rfl) ?_
                refine lv_aload_n hx hb dX10_interrupt_65 rfl (lv_at hl 1 rfl) ?_
                refine va_get (D := (dC, dI)) (ci := 10) (v := .int (n 11)) (C := RX10) (T := TX10) (N := 60) hx hb hg gb_10 hown hK hP 0 rfl rfl 11 (by decide) (hg _ gm_fieldLink_RX10_176_ErrandGuildModel_runs_I_) (fun _ h9 => h9) rfl dX10_interrupt_66 ?_
                refine lv_icmp_ge (tgt := 114) hx hb dX10_interrupt_69 (by decide) (fun c_74 => ?_) (fun c_74 => ?_)
                · simp only [i_lt, i_le, i_eq] at c_74
                  refine lv_iconst (v := 1) hx hb dX10_interrupt_114 (by decide) ?_
                  exact W.zret (v := 1) hx hb hr rfl (fun t ht hW => ⟨⟨1, ((fun k => ([F 0, F 1, F 2, F 3, F 4, F 5, F 6, F 7, F 8, (fun _ => 0), F 10, (fun _ => 0), (fun _ => 0), upd (F 13) (Int32.toNatClampNeg v1) 0, F 14, F 15, F 16, F 17, F 18, F 19, F 20, F 21, F 22, F 23, F 24, upd (F 25) (Int32.toNatClampNeg v1) (vp_nar .boolean 1), f_68, f_69, F 28, F 29, F 30, F 31, F 32, F 33, F 34, F 35, F 36, F 37, F 38, F 39, F 40, F 41, F 42, F 43, (fun _ => 0), (fun _ => 0), (fun _ => 0), (fun _ => 0), (fun _ => 0), F 49, F 50, F 51, F 52, F 53, F 54, F 55, F 56, F 57, F 58, F 59] : List (Nat → Int32)).getD k (fun _ => 0)), n), rfl, (Or.inl ⟨rfl, by show ((n 11)).toInt = (n 11).toInt; omega⟩), by rw [ht]; exact hP, hD, ⟨b_1, b_2, b_61, b_4, b_5, b_6, b_7, b_8, b_9, b_10, b_11, b_12, i_13, i_14, i_15, i_16, i_17, i_18, i_19, j_20, j_62, j_22, j_23, j_24, j_25, j_26, j_27, j_63, j_29⟩⟩, hS.F ht⟩) hS.2.2 dX10_interrupt_115
                · simp only [i_lt, i_le, i_eq] at c_74
                  refine lv_aload_n hx hb dX10_interrupt_72 rfl (lv_at hl 1 rfl) ?_
                  refine va_get (D := (dC, dI)) (ci := 10) (v := .ref (X 15)) (C := RX10) (T := TX10) (N := 60) hx hb hg gb_10 hown hK hP 0 rfl rfl 15 (by decide) (hg _ gm_fieldLink_RX10_51_ErrandGuildModel_giver_AI_) (fun _ h9 => h9) rfl dX10_interrupt_73 ?_
                  refine lv_iload_n hx hb dX10_interrupt_76 rfl (lv_at hl 0 rfl) ?_
                  refine va_iald (f := F 15) hx hb hK hP 13 12 rfl rfl (vp_in_iff.mpr ⟨by omega, by omega⟩) dX10_interrupt_77 ?_
                  refine lv_topi (fun z_75 ez_75 => ?_)
                  have qz_75 := congrArg Int32.toInt ez_75
                  have bz_75 := bd_at b_5 ez_75
                  refine lv_iload_n hx hb dX10_interrupt_78 rfl (lv_at hl 2 rfl) ?_
                  refine lv_icmp_ne (tgt := 108) hx hb dX10_interrupt_79 (by decide) (fun c_76 => ?_) (fun c_76 => ?_)
                  · simp only [i_lt, i_le, i_eq] at c_76
                    obtain ⟨y_77, ey_77⟩ : ∃ q : Int32, q = x_67 + (1) := ⟨_, rfl⟩
                    refine lv_iinc (v := y_77) (lv' := [(2, .int y_77), (0, .ref h0), (1, .int v1)]) hx hb dX10_interrupt_108 hl (k := 0) rfl (by rw [ey_77]; rfl) (by decide) rfl (fun ls hl => ?_)
                    have ty_77 : y_77.toInt = x_67.toInt + (1) := ar_add rfl ti_1 ey_77 (by omega)
                    refine lv_goto (tgt := 64) hx hb dX10_interrupt_111 (by decide) ?_
                    exact ih_70 y_77 f_68 f_69  H locs ls (by omega) (by omega) hP hD hS (lv_sub hl [0, 1, 2] rfl)
                  · simp only [i_lt, i_le, i_eq] at c_76
                    refine lv_aload_n hx hb dX10_interrupt_82 rfl (lv_at hl 1 rfl) ?_
                    refine va_get (D := (dC, dI)) (ci := 10) (v := .ref (X 27)) (C := RX10) (T := TX10) (N := 60) hx hb hg gb_10 hown hK hP 0 rfl rfl 27 (by decide) (hg _ gm_fieldLink_RX10_87_ErrandGuildModel_isAwaited_AZ_) (fun _ h9 => h9) rfl dX10_interrupt_83 ?_
                    refine lv_iload_n hx hb dX10_interrupt_86 rfl (lv_at hl 0 rfl) ?_
                    refine va_zald (f := f_69) hx hb hK hP 25 24 rfl rfl (vp_in_iff.mpr ⟨by omega, by omega⟩) dX10_interrupt_87 ?_
                    refine lv_topi (fun z_78 ez_78 => ?_)
                    have qz_78 := congrArg Int32.toInt ez_78
                    refine lv_if_ne (tgt := 94) hx hb dX10_interrupt_88 (by decide) (fun c_79 => ?_) (fun c_79 => ?_)
                    · simp only [i_lt, i_le, i_eq, ti_0] at c_79
                      refine lv_aload_n hx hb dX10_interrupt_94 rfl (lv_at hl 1 rfl) ?_
                      refine va_get (D := (dC, dI)) (ci := 10) (v := .ref (X 27)) (C := RX10) (T := TX10) (N := 60) hx hb hg gb_10 hown hK hP 0 rfl rfl 27 (by decide) (hg _ gm_fieldLink_RX10_87_ErrandGuildModel_isAwaited_AZ_) (fun _ h9 => h9) rfl dX10_interrupt_95 ?_
                      refine lv_iload_n hx hb dX10_interrupt_98 rfl (lv_at hl 0 rfl) ?_
                      refine lv_iconst (v := 0) hx hb dX10_interrupt_99 (by decide) ?_
                      refine va_zast (f := f_69) hx hb hK hP hD hS 25 24 rfl rfl (vp_in_iff.mpr ⟨by omega, by omega⟩) dX10_interrupt_100 (fun H locs hP hD hS => ?_)
                      have hP : va_P (dC, dI) vwCl (w10 h0 X C (F 0) (F 1) (F 2) (F 3) (F 4) (F 5) (F 6) (F 7) (F 8) (F 10) (upd (F 13) (Int32.toNatClampNeg v1) 0) (F 14) (F 15) (F 16) (F 17) (F 18) (F 19) (F 20) (F 21) (F 22) (F 23) (F 24) (upd (F 25) (Int32.toNatClampNeg v1) (vp_nar .boolean 1)) f_68 (upd f_69 (Int32.toNatClampNeg x_67) (vp_nar .boolean 0)) (F 28) (F 29) (F 30) (F 31) (F 32) (F 33) (F 34) (F 35) (F 36) (F 37) (F 38) (F 39) (F 40) (F 41) (F 42) (F 43) (F 49) (F 50) (F 51) (F 52) (F 53) (F 54) (F 55) (F 56) (F 57) (F 58) (F 59) (n 9) (n 11) (n 12) (n 44) (n 45) (n 46) (n 47) (n 48)) H := hP
                      have hD : va_D A (w10 h0 X C (F 0) (F 1) (F 2) (F 3) (F 4) (F 5) (F 6) (F 7) (F 8) (F 10) (upd (F 13) (Int32.toNatClampNeg v1) 0) (F 14) (F 15) (F 16) (F 17) (F 18) (F 19) (F 20) (F 21) (F 22) (F 23) (F 24) (upd (F 25) (Int32.toNatClampNeg v1) (vp_nar .boolean 1)) f_68 (upd f_69 (Int32.toNatClampNeg x_67) (vp_nar .boolean 0)) (F 28) (F 29) (F 30) (F 31) (F 32) (F 33) (F 34) (F 35) (F 36) (F 37) (F 38) (F 39) (F 40) (F 41) (F 42) (F 43) (F 49) (F 50) (F 51) (F 52) (F 53) (F 54) (F 55) (F 56) (F 57) (F 58) (F 59) (n 9) (n 11) (n 12) (n 44) (n 45) (n 46) (n 47) (n 48)) := hD
                      refine lv_aload_n hx hb dX10_interrupt_101 rfl (lv_at hl 1 rfl) ?_
                      refine va_get (D := (dC, dI)) (ci := 10) (v := .ref (X 26)) (C := RX10) (T := TX10) (N := 60) hx hb hg gb_10 hown hK hP 0 rfl rfl 26 (by decide) (hg _ gm_fieldLink_RX10_84_ErrandGuildModel_wasWaited_AZ_) (fun _ h9 => h9) rfl dX10_interrupt_102 ?_
                      refine lv_iload_n hx hb dX10_interrupt_105 rfl (lv_at hl 0 rfl) ?_
                      refine lv_iconst (v := 1) hx hb dX10_interrupt_106 (by decide) ?_
                      refine va_zast (f := f_68) hx hb hK hP hD hS 24 23 rfl rfl (vp_in_iff.mpr ⟨by omega, by omega⟩) dX10_interrupt_107 (fun H locs hP hD hS => ?_)
                      have hP : va_P (dC, dI) vwCl (w10 h0 X C (F 0) (F 1) (F 2) (F 3) (F 4) (F 5) (F 6) (F 7) (F 8) (F 10) (upd (F 13) (Int32.toNatClampNeg v1) 0) (F 14) (F 15) (F 16) (F 17) (F 18) (F 19) (F 20) (F 21) (F 22) (F 23) (F 24) (upd (F 25) (Int32.toNatClampNeg v1) (vp_nar .boolean 1)) (upd f_68 (Int32.toNatClampNeg x_67) (vp_nar .boolean 1)) (upd f_69 (Int32.toNatClampNeg x_67) (vp_nar .boolean 0)) (F 28) (F 29) (F 30) (F 31) (F 32) (F 33) (F 34) (F 35) (F 36) (F 37) (F 38) (F 39) (F 40) (F 41) (F 42) (F 43) (F 49) (F 50) (F 51) (F 52) (F 53) (F 54) (F 55) (F 56) (F 57) (F 58) (F 59) (n 9) (n 11) (n 12) (n 44) (n 45) (n 46) (n 47) (n 48)) H := hP
                      have hD : va_D A (w10 h0 X C (F 0) (F 1) (F 2) (F 3) (F 4) (F 5) (F 6) (F 7) (F 8) (F 10) (upd (F 13) (Int32.toNatClampNeg v1) 0) (F 14) (F 15) (F 16) (F 17) (F 18) (F 19) (F 20) (F 21) (F 22) (F 23) (F 24) (upd (F 25) (Int32.toNatClampNeg v1) (vp_nar .boolean 1)) (upd f_68 (Int32.toNatClampNeg x_67) (vp_nar .boolean 1)) (upd f_69 (Int32.toNatClampNeg x_67) (vp_nar .boolean 0)) (F 28) (F 29) (F 30) (F 31) (F 32) (F 33) (F 34) (F 35) (F 36) (F 37) (F 38) (F 39) (F 40) (F 41) (F 42) (F 43) (F 49) (F 50) (F 51) (F 52) (F 53) (F 54) (F 55) (F 56) (F 57) (F 58) (F 59) (n 9) (n 11) (n 12) (n 44) (n 45) (n 46) (n 47) (n 48)) := hD
                      obtain ⟨y_80, ey_80⟩ : ∃ q : Int32, q = x_67 + (1) := ⟨_, rfl⟩
                      refine lv_iinc (v := y_80) (lv' := [(2, .int y_80), (0, .ref h0), (1, .int v1)]) hx hb dX10_interrupt_108 hl (k := 0) rfl (by rw [ey_80]; rfl) (by decide) rfl (fun ls hl => ?_)
                      have ty_80 : y_80.toInt = x_67.toInt + (1) := ar_add rfl ti_1 ey_80 (by omega)
                      refine lv_goto (tgt := 64) hx hb dX10_interrupt_111 (by decide) ?_
                      exact ih_70 y_80 (upd f_68 (Int32.toNatClampNeg x_67) (vp_nar .boolean 1)) (upd f_69 (Int32.toNatClampNeg x_67) (vp_nar .boolean 0))  H locs ls (by omega) (by omega) hP hD hS (lv_sub hl [0, 1, 2] rfl)
                    · simp only [i_lt, i_le, i_eq, ti_0] at c_79
                      refine lv_goto (tgt := 108) hx hb dX10_interrupt_91 (by decide) ?_
                      obtain ⟨y_81, ey_81⟩ : ∃ q : Int32, q = x_67 + (1) := ⟨_, rfl⟩
                      refine lv_iinc (v := y_81) (lv' := [(2, .int y_81), (0, .ref h0), (1, .int v1)]) hx hb dX10_interrupt_108 hl (k := 0) rfl (by rw [ey_81]; rfl) (by decide) rfl (fun ls hl => ?_)
                      have ty_81 : y_81.toInt = x_67.toInt + (1) := ar_add rfl ti_1 ey_81 (by omega)
                      refine lv_goto (tgt := 64) hx hb dX10_interrupt_111 (by decide) ?_
                      exact ih_70 y_81 f_68 f_69  H locs ls (by omega) (by omega) hP hD hS (lv_sub hl [0, 1, 2] rfl)
            exact L64 _ z_66 (F 26) (F 27)  _ _ _ (Nat.lt_succ_self _) (by omega) hP hD hS (lv_sub hl [0, 1, 2] rfl)
      · simp only [i_lt, i_le, i_eq, ti_0] at c_40
        refine lv_iconst (v := 0) hx hb dX10_interrupt_25 (by decide) ?_
        exact W.zret (v := 0) hx hb hr rfl (fun t ht hW => ⟨⟨0, (F, n), rfl, (Or.inr ⟨rfl, by show ((n 11)).toInt = (n 11).toInt; omega⟩), by rw [ht]; exact hP, hD, ⟨b_1, b_2, b_3, b_4, b_5, b_6, b_7, b_8, b_9, b_10, b_11, b_12, i_13, i_14, i_15, i_16, i_17, i_18, i_19, j_20, j_21, j_22, j_23, j_24, j_25, j_26, j_27, j_28, j_29⟩⟩, hS.F ht⟩) hS.2.2 dX10_interrupt_26
  · have w_32 : ¬ (0 ≤ v1.toInt ∧ v1.toInt < ((n 11)).toInt) := w_32
    try simp only [upd_eq] at w_32
    refine lv_if_eq (tgt := 25) hx hb dX10_interrupt_5 (by decide) (fun _ => ?_) (fun c_82 => absurd c_82 (by decide))
    refine lv_iconst (v := 0) hx hb dX10_interrupt_25 (by decide) ?_
    exact W.zret (v := 0) hx hb hr rfl (fun t ht hW => ⟨⟨0, (F, n), rfl, (Or.inr ⟨rfl, by show ((n 11)).toInt = (n 11).toInt; omega⟩), by rw [ht]; exact hP, hD, ⟨b_1, b_2, b_3, b_4, b_5, b_6, b_7, b_8, b_9, b_10, b_11, b_12, i_13, i_14, i_15, i_16, i_17, i_18, i_19, j_20, j_21, j_22, j_23, j_24, j_25, j_26, j_27, j_28, j_29⟩⟩, hS.F ht⟩) hS.2.2 dX10_interrupt_26
