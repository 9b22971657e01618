set_option maxHeartbeats 4000000 in
set_option maxRecDepth 100000 in
theorem c_X7_isOver (l : Launch) (dC : Nat → ClassId) (dI : Nat → Nat → Nat) (h0 : Nat) (r_0 : Nat) (r_1 : Nat) (r_2 : Nat) (r_3 : Nat) (r_4 : Nat) (a0 : Int32) (a1 : Int32) (a2 : Int32) (a3 : Int32) (a4 : Int32) (a5 : Int32) (a6 : Int32) (a7 : Int32) (a8 : Int32) (a9 : Int32) (sz : Nat)  : Met l yX7_isOver (.code yX7_isOver cX7_isOver 1 (some .boolean) :: gw) ({ frames := 0, cells := 0, slots := 0, locals := 0 }) (va_Pc [.ref h0] (fun U => U.heap.size = sz ∧ va_P (dC, dI) vwCl [(h0, .inr (7, [.int a0, .int a1, .int a2, .int a3, .int a4, .int a5, .int a6, .int a7, .int a8, .int a9, .ref r_0, .ref r_1, .ref r_2, .ref r_3, .ref r_4]))] U.heap ∧ va_K (dC, dI) vwCl [] U ∧ va_D (fun _ => True) [(h0, .inr (7, [.int a0, .int a1, .int a2, .int a3, .int a4, .int a5, .int a6, .int a7, .int a8, .int a9, .ref r_0, .ref r_1, .ref r_2, .ref r_3, .ref r_4]))] ∧ nx U)) (va_Qi (fun (r : Int32) (u : Unit) => (r = 1 ∧ (a2.toInt = 3 ∨ a2.toInt = 4)) ∨ (r = 0 ∧ ¬ (a2.toInt = 3 ∨ a2.toInt = 4))) (fun _ t => va_P (dC, dI) vwCl [(h0, .inr (7, [.int a0, .int a1, .int a2, .int a3, .int a4, .int a5, .int a6, .int a7, .int a8, .int a9, .ref r_0, .ref r_1, .ref r_2, .ref r_3, .ref r_4]))] t.heap ∧ va_D (va_A [(h0, .inr (7, [.int a0, .int a1, .int a2, .int a3, .int a4, .int a5, .int a6, .int a7, .int a8, .int a9, .ref r_0, .ref r_1, .ref r_2, .ref r_3, .ref r_4]))] sz) [(h0, .inr (7, [.int a0, .int a1, .int a2, .int a3, .int a4, .int a5, .int a6, .int a7, .int a8, .int a9, .ref r_0, .ref r_1, .ref r_2, .ref r_3, .ref r_4]))]) (va_A [(h0, .inr (7, [.int a0, .int a1, .int a2, .int a3, .int a4, .int a5, .int a6, .int a7, .int a8, .int a9, .ref r_0, .ref r_1, .ref r_2, .ref r_3, .ref r_4]))] sz)) 0 0 (va_A [(h0, .inr (7, [.int a0, .int a1, .int a2, .int a3, .int a4, .int a5, .int a6, .int a7, .int a8, .int a9, .ref r_0, .ref r_1, .ref r_2, .ref r_3, .ref r_4]))] sz) := by
  refine Met.ofW (cc := cX7_isOver) (maxL := 1) (ret := (some .boolean)) (by decide) rfl ?_
  intro p e s m args below meth c s₁ B hml hv
  obtain ⟨rfl, hsz, hP, hK, hD0, hN⟩ := hv
  have hx := B.exec
  have hb := B.bytes
  have hr := B.returns
  have hts := atoms_spec (ws := .code yX7_isOver cX7_isOver 1 (some .boolean) :: gw) B.pre
  have hg : ∀ w ∈ gw, w.before _ s = true := fun w h => hts w (List.mem_cons_of_mem _ h)
  have hown : s.vm.findClass RX7 = some m.cls := findClass_of_methodNamed B.named
  have hlocks := B.notSynchronized
  subst hsz
  have hD := hD0.self (sz := s.heap.size)
  generalize hAe : va_A [(h0, .inr (7, [.int a0, .int a1, .int a2, .int a3, .int a4, .int a5, .int a6, .int a7, .int a8, .int a9, .ref r_0, .ref r_1, .ref r_2, .ref r_3, .ref r_4]))] s.heap.size = A at hD ⊢
  have hA : ∀ q : Nat, s.heap.size ≤ q → A q := fun q h => by rw [← hAe]; exact Or.inr h
  have hS : va_S A s.heap s.heap [] := va_S.rf
  have hP : va_P (dC, dI) vwCl [(h0, .inr (7, [.int a0, .int a1, .int a2, .int a3, .int a4, .int a5, .int a6, .int a7, .int a8, .int a9, .ref r_0, .ref r_1, .ref r_2, .ref r_3, .ref r_4]))] s.heap := hP
  have hl := lv_entry ([.ref h0]) (n := 1) (Nat.le_of_ble_eq_true rfl)
  rw [lg_entry_eq]
  generalize (lg_sl ([.ref h0]) ++ List.replicate (1 - (lg_sl ([.ref h0])).length) Slot.unset).toArray = ls at hl ⊢
  have hl : lv_has ls 1 [(0, .ref h0)] := hl
  refine lv_aload_n hx hb dX7_isOver_0 rfl (lv_at hl 0 rfl) ?_
  refine va_get (D := (dC, dI)) (ci := 7) (v := .int a2) (C := RX7) (T := TX7) (N := 15) hx hb hg gb_7 hown hK hP 0 rfl rfl 2 (by decide) (hg _ gm_fieldLink_RX7_56_ErrandGuild_Run_state_I_) (fun _ h9 => h9) rfl dX7_isOver_1 ?_
  refine lv_iconst (v := 3) hx hb dX7_isOver_4 (by decide) ?_
  refine lv_icmp_eq (tgt := 16) hx hb dX7_isOver_5 (by decide) (fun c_1 => ?_) (fun c_1 => ?_)
  · simp only [i_lt, i_le, i_eq, ti_3] at c_1
    refine lv_iconst (v := 1) hx hb dX7_isOver_16 (by decide) ?_
    refine lv_goto (tgt := 21) hx hb dX7_isOver_17 (by decide) ?_
    have hP9 := hP.sub (ws' := [(h0, .inr (7, [.int a0, .int a1, .int a2, .int a3, .int a4, .int a5, .int a6, .int a7, .int a8, .int a9, .ref r_0, .ref r_1, .ref r_2, .ref r_3, .ref r_4]))]) [0] rfl
    have hD9 := hD.sub (ws' := [(h0, .inr (7, [.int a0, .int a1, .int a2, .int a3, .int a4, .int a5, .int a6, .int a7, .int a8, .int a9, .ref r_0, .ref r_1, .ref r_2, .ref r_3, .ref r_4]))]) [0] (by decide) rfl
    exact W.zret (v := 1) hx hb hr rfl (fun t ht hW => ⟨⟨1, (), rfl, (Or.inl ⟨rfl, by omega⟩), by rw [ht]; exact hP9, hD9⟩, hS.F ht⟩) hS.2.2 dX7_isOver_21
  · simp only [i_lt, i_le, i_eq, ti_3] at c_1
    refine lv_aload_n hx hb dX7_isOver_8 rfl (lv_at hl 0 rfl) ?_
    refine va_get (D := (dC, dI)) (ci := 7) (v := .int a2) (C := RX7) (T := TX7) (N := 15) hx hb hg gb_7 hown hK hP 0 rfl rfl 2 (by decide) (hg _ gm_fieldLink_RX7_56_ErrandGuild_Run_state_I_) (fun _ h9 => h9) rfl dX7_isOver_9 ?_
    refine lv_iconst (v := 4) hx hb dX7_isOver_12 (by decide) ?_
    refine lv_icmp_ne (tgt := 20) hx hb dX7_isOver_13 (by decide) (fun c_2 => ?_) (fun c_2 => ?_)
    · simp only [i_lt, i_le, i_eq, ti_4] at c_2
      refine lv_iconst (v := 0) hx hb dX7_isOver_20 (by decide) ?_
      have hP9 := hP.sub (ws' := [(h0, .inr (7, [.int a0, .int a1, .int a2, .int a3, .int a4, .int a5, .int a6, .int a7, .int a8, .int a9, .ref r_0, .ref r_1, .ref r_2, .ref r_3, .ref r_4]))]) [0] rfl
      have hD9 := hD.sub (ws' := [(h0, .inr (7, [.int a0, .int a1, .int a2, .int a3, .int a4, .int a5, .int a6, .int a7, .int a8, .int a9, .ref r_0, .ref r_1, .ref r_2, .ref r_3, .ref r_4]))]) [0] (by decide) rfl
      exact W.zret (v := 0) hx hb hr rfl (fun t ht hW => ⟨⟨0, (), rfl, (Or.inr ⟨rfl, by omega⟩), by rw [ht]; exact hP9, hD9⟩, hS.F ht⟩) hS.2.2 dX7_isOver_21
    · simp only [i_lt, i_le, i_eq, ti_4] at c_2
      refine lv_iconst (v := 1) hx hb dX7_isOver_16 (by decide) ?_
      refine lv_goto (tgt := 21) hx hb dX7_isOver_17 (by decide) ?_
      have hP9 := hP.sub (ws' := [(h0, .inr (7, [.int a0, .int a1, .int a2, .int a3, .int a4, .int a5, .int a6, .int a7, .int a8, .int a9, .ref r_0, .ref r_1, .ref r_2, .ref r_3, .ref r_4]))]) [0] rfl
      have hD9 := hD.sub (ws' := [(h0, .inr (7, [.int a0, .int a1, .int a2, .int a3, .int a4, .int a5, .int a6, .int a7, .int a8, .int a9, .ref r_0, .ref r_1, .ref r_2, .ref r_3, .ref r_4]))]) [0] (by decide) rfl
      exact W.zret (v := 1) hx hb hr rfl (fun t ht hW => ⟨⟨1, (), rfl, (Or.inl ⟨rfl, by omega⟩), by rw [ht]; exact hP9, hD9⟩, hS.F ht⟩) hS.2.2 dX7_isOver_21
