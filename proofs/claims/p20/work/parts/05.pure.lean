set_option maxHeartbeats 4000000 in
set_option maxRecDepth 100000 in
theorem c_X9_isSlot (l : Launch) (dC : Nat → ClassId) (dI : Nat → Nat → Nat) (a : Int32) (sz : Nat)  : Met l yX9_isSlot (.code yX9_isSlot cX9_isSlot 1 (some .boolean) :: gw) ({ frames := 0, cells := 0, slots := 0, locals := 0 }) (va_Pc [.int a] (fun U => U.heap.size = sz ∧ va_P (dC, dI) vwCl [] U.heap ∧ va_K (dC, dI) vwCl [] U ∧ va_D (fun _ => True) [] ∧ nx U)) (va_Qi (fun (r : Int32) (u : Unit) => (r = 1 ∧ (0 ≤ a.toInt ∧ a.toInt < 8)) ∨ (r = 0 ∧ ¬ (0 ≤ a.toInt ∧ a.toInt < 8))) (fun _ _ => True) (va_A [] sz)) 0 0 (va_A [] sz) := by
  refine Met.ofW (cc := cX9_isSlot) (maxL := 1) (ret := (some .boolean)) (by decide) rfl ?_
  intro p e s m args below meth c s₁ B hml hv
  obtain ⟨rfl, hsz, hP, hK, hD0, hN⟩ := hv
  have hx := B.exec
  have hb := B.bytes
  have hr := B.returns
  have hts := atoms_spec (ws := .code yX9_isSlot cX9_isSlot 1 (some .boolean) :: gw) B.pre
  have hg : ∀ w ∈ gw, w.before _ s = true := fun w h => hts w (List.mem_cons_of_mem _ h)
  have hown : s.vm.findClass RX9 = some m.cls := findClass_of_methodNamed B.named
  have hlocks := B.notSynchronized
  subst hsz
  have hD := hD0.self (sz := s.heap.size)
  generalize hAe : va_A [] s.heap.size = A at hD ⊢
  have hA : ∀ q : Nat, s.heap.size ≤ q → A q := fun q h => by rw [← hAe]; exact Or.inr h
  have hS : va_S A s.heap s.heap [] := va_S.rf
  have hP : va_P (dC, dI) vwCl [] s.heap := hP
  have hl := lv_entry ([.int a]) (n := 1) (Nat.le_of_ble_eq_true rfl)
  rw [lg_entry_eq]
  generalize (lg_sl ([.int a]) ++ List.replicate (1 - (lg_sl ([.int a])).length) Slot.unset).toArray = ls at hl ⊢
  have hl : lv_has ls 1 [(0, .int a)] := hl
  refine lv_iload_n hx hb dX9_isSlot_0 rfl (lv_at hl 0 rfl) ?_
  refine lv_if_lt (tgt := 14) hx hb dX9_isSlot_1 (by decide) (fun c_1 => ?_) (fun c_1 => ?_)
  · simp only [i_lt, i_le, i_eq, ti_0] at c_1
    refine lv_iconst (v := 0) hx hb dX9_isSlot_14 (by decide) ?_
    exact W.zret (v := 0) hx hb hr rfl (fun t ht hW => ⟨⟨0, (), rfl, (Or.inr ⟨rfl, by omega⟩), trivial⟩, hS.F ht⟩) hS.2.2 dX9_isSlot_15
  · simp only [i_lt, i_le, i_eq, ti_0] at c_1
    refine lv_iload_n hx hb dX9_isSlot_4 rfl (lv_at hl 0 rfl) ?_
    refine lv_bipush (v := 8) hx hb dX9_isSlot_5 (by decide) ?_
    refine lv_icmp_ge (tgt := 14) hx hb dX9_isSlot_7 (by decide) (fun c_2 => ?_) (fun c_2 => ?_)
    · simp only [i_lt, i_le, i_eq, ti_8] at c_2
      refine lv_iconst (v := 0) hx hb dX9_isSlot_14 (by decide) ?_
      exact W.zret (v := 0) hx hb hr rfl (fun t ht hW => ⟨⟨0, (), rfl, (Or.inr ⟨rfl, by omega⟩), trivial⟩, hS.F ht⟩) hS.2.2 dX9_isSlot_15
    · simp only [i_lt, i_le, i_eq, ti_8] at c_2
      refine lv_iconst (v := 1) hx hb dX9_isSlot_10 (by decide) ?_
      refine lv_goto (tgt := 15) hx hb dX9_isSlot_11 (by decide) ?_
      exact W.zret (v := 1) hx hb hr rfl (fun t ht hW => ⟨⟨1, (), rfl, (Or.inl ⟨rfl, by omega⟩), trivial⟩, hS.F ht⟩) hS.2.2 dX9_isSlot_15

set_option maxHeartbeats 4000000 in
set_option maxRecDepth 100000 in
theorem c_X9_isErrand (l : Launch) (dC : Nat → ClassId) (dI : Nat → Nat → Nat) (a : Int32) (sz : Nat)  : Met l yX9_isErrand (.code yX9_isErrand cX9_isErrand 1 (some .boolean) :: gw) ({ frames := 0, cells := 0, slots := 0, locals := 0 }) (va_Pc [.int a] (fun U => U.heap.size = sz ∧ va_P (dC, dI) vwCl [] U.heap ∧ va_K (dC, dI) vwCl [] U ∧ va_D (fun _ => True) [] ∧ nx U)) (va_Qi (fun (r : Int32) (u : Unit) => (r = 1 ∧ (0 ≤ a.toInt ∧ a.toInt < 8)) ∨ (r = 0 ∧ ¬ (0 ≤ a.toInt ∧ a.toInt < 8))) (fun _ _ => True) (va_A [] sz)) 0 0 (va_A [] sz) := by
  refine Met.ofW (cc := cX9_isErrand) (maxL := 1) (ret := (some .boolean)) (by decide) rfl ?_
  intro p e s m args below meth c s₁ B hml hv
  obtain ⟨rfl, hsz, hP, hK, hD0, hN⟩ := hv
  have hx := B.exec
  have hb := B.bytes
  have hr := B.returns
  have hts := atoms_spec (ws := .code yX9_isErrand cX9_isErrand 1 (some .boolean) :: gw) B.pre
  have hg : ∀ w ∈ gw, w.before _ s = true := fun w h => hts w (List.mem_cons_of_mem _ h)
  have hown : s.vm.findClass RX9 = some m.cls := findClass_of_methodNamed B.named
  have hlocks := B.notSynchronized
  subst hsz
  have hD := hD0.self (sz := s.heap.size)
  generalize hAe : va_A [] s.heap.size = A at hD ⊢
  have hA : ∀ q : Nat, s.heap.size ≤ q → A q := fun q h => by rw [← hAe]; exact Or.inr h
  have hS : va_S A s.heap s.heap [] := va_S.rf
  have hP : va_P (dC, dI) vwCl [] s.heap := hP
  have hl := lv_entry ([.int a]) (n := 1) (Nat.le_of_ble_eq_true rfl)
  rw [lg_entry_eq]
  generalize (lg_sl ([.int a]) ++ List.replicate (1 - (lg_sl ([.int a])).length) Slot.unset).toArray = ls at hl ⊢
  have hl : lv_has ls 1 [(0, .int a)] := hl
  refine lv_iload_n hx hb dX9_isErrand_0 rfl (lv_at hl 0 rfl) ?_
  refine lv_if_lt (tgt := 14) hx hb dX9_isErrand_1 (by decide) (fun c_1 => ?_) (fun c_1 => ?_)
  · simp only [i_lt, i_le, i_eq, ti_0] at c_1
    refine lv_iconst (v := 0) hx hb dX9_isErrand_14 (by decide) ?_
    exact W.zret (v := 0) hx hb hr rfl (fun t ht hW => ⟨⟨0, (), rfl, (Or.inr ⟨rfl, by omega⟩), trivial⟩, hS.F ht⟩) hS.2.2 dX9_isErrand_15
  · simp only [i_lt, i_le, i_eq, ti_0] at c_1
    refine lv_iload_n hx hb dX9_isErrand_4 rfl (lv_at hl 0 rfl) ?_
    refine lv_bipush (v := 8) hx hb dX9_isErrand_5 (by decide) ?_
    refine lv_icmp_ge (tgt := 14) hx hb dX9_isErrand_7 (by decide) (fun c_2 => ?_) (fun c_2 => ?_)
    · simp only [i_lt, i_le, i_eq, ti_8] at c_2
      refine lv_iconst (v := 0) hx hb dX9_isErrand_14 (by decide) ?_
      exact W.zret (v := 0) hx hb hr rfl (fun t ht hW => ⟨⟨0, (), rfl, (Or.inr ⟨rfl, by omega⟩), trivial⟩, hS.F ht⟩) hS.2.2 dX9_isErrand_15
    · simp only [i_lt, i_le, i_eq, ti_8] at c_2
      refine lv_iconst (v := 1) hx hb dX9_isErrand_10 (by decide) ?_
      refine lv_goto (tgt := 15) hx hb dX9_isErrand_11 (by decide) ?_
      exact W.zret (v := 1) hx hb hr rfl (fun t ht hW => ⟨⟨1, (), rfl, (Or.inl ⟨rfl, by omega⟩), trivial⟩, hS.F ht⟩) hS.2.2 dX9_isErrand_15

set_option maxHeartbeats 4000000 in
set_option maxRecDepth 100000 in
theorem c_X10_isSlot (l : Launch) (dC : Nat → ClassId) (dI : Nat → Nat → Nat) (a : Int32) (sz : Nat)  : Met l yX10_isSlot (.code yX10_isSlot cX10_isSlot 1 (some .boolean) :: gw) ({ frames := 0, cells := 0, slots := 0, locals := 0 }) (va_Pc [.int a] (fun U => U.heap.size = sz ∧ va_P (dC, dI) vwCl [] U.heap ∧ va_K (dC, dI) vwCl [] U ∧ va_D (fun _ => True) [] ∧ nx U)) (va_Qi (fun (r : Int32) (u : Unit) => (r = 1 ∧ (0 ≤ a.toInt ∧ a.toInt < 8)) ∨ (r = 0 ∧ ¬ (0 ≤ a.toInt ∧ a.toInt < 8))) (fun _ _ => True) (va_A [] sz)) 0 0 (va_A [] sz) := by
  refine Met.ofW (cc := cX10_isSlot) (maxL := 1) (ret := (some .boolean)) (by decide) rfl ?_
  intro p e s m args below meth c s₁ B hml hv
  obtain ⟨rfl, hsz, hP, hK, hD0, hN⟩ := hv
  have hx := B.exec
  have hb := B.bytes
  have hr := B.returns
  have hts := atoms_spec (ws := .code yX10_isSlot cX10_isSlot 1 (some .boolean) :: gw) B.pre
  have hg : ∀ w ∈ gw, w.before _ s = true := fun w h => hts w (List.mem_cons_of_mem _ h)
  have hown : s.vm.findClass RX10 = some m.cls := findClass_of_methodNamed B.named
  have hlocks := B.notSynchronized
  subst hsz
  have hD := hD0.self (sz := s.heap.size)
  generalize hAe : va_A [] s.heap.size = A at hD ⊢
  have hA : ∀ q : Nat, s.heap.size ≤ q → A q := fun q h => by rw [← hAe]; exact Or.inr h
  have hS : va_S A s.heap s.heap [] := va_S.rf
  have hP : va_P (dC, dI) vwCl [] s.heap := hP
  have hl := lv_entry ([.int a]) (n := 1) (Nat.le_of_ble_eq_true rfl)
  rw [lg_entry_eq]
  generalize (lg_sl ([.int a]) ++ List.replicate (1 - (lg_sl ([.int a])).length) Slot.unset).toArray = ls at hl ⊢
  have hl : lv_has ls 1 [(0, .int a)] := hl
  refine lv_iload_n hx hb dX10_isSlot_0 rfl (lv_at hl 0 rfl) ?_
  refine lv_if_lt (tgt := 14) hx hb dX10_isSlot_1 (by decide) (fun c_1 => ?_) (fun c_1 => ?_)
  · simp only [i_lt, i_le, i_eq, ti_0] at c_1
    refine lv_iconst (v := 0) hx hb dX10_isSlot_14 (by decide) ?_
    exact W.zret (v := 0) hx hb hr rfl (fun t ht hW => ⟨⟨0, (), rfl, (Or.inr ⟨rfl, by omega⟩), trivial⟩, hS.F ht⟩) hS.2.2 dX10_isSlot_15
  · simp only [i_lt, i_le, i_eq, ti_0] at c_1
    refine lv_iload_n hx hb dX10_isSlot_4 rfl (lv_at hl 0 rfl) ?_
    refine lv_bipush (v := 8) hx hb dX10_isSlot_5 (by decide) ?_
    refine lv_icmp_ge (tgt := 14) hx hb dX10_isSlot_7 (by decide) (fun c_2 => ?_) (fun c_2 => ?_)
    · simp only [i_lt, i_le, i_eq, ti_8] at c_2
      refine lv_iconst (v := 0) hx hb dX10_isSlot_14 (by decide) ?_
      exact W.zret (v := 0) hx hb hr rfl (fun t ht hW => ⟨⟨0, (), rfl, (Or.inr ⟨rfl, by omega⟩), trivial⟩, hS.F ht⟩) hS.2.2 dX10_isSlot_15
    · simp only [i_lt, i_le, i_eq, ti_8] at c_2
      refine lv_iconst (v := 1) hx hb dX10_isSlot_10 (by decide) ?_
      refine lv_goto (tgt := 15) hx hb dX10_isSlot_11 (by decide) ?_
      exact W.zret (v := 1) hx hb hr rfl (fun t ht hW => ⟨⟨1, (), rfl, (Or.inl ⟨rfl, by omega⟩), trivial⟩, hS.F ht⟩) hS.2.2 dX10_isSlot_15

set_option maxHeartbeats 4000000 in
set_option maxRecDepth 100000 in
theorem c_X10_isErrand (l : Launch) (dC : Nat → ClassId) (dI : Nat → Nat → Nat) (a : Int32) (sz : Nat)  : Met l yX10_isErrand (.code yX10_isErrand cX10_isErrand 1 (some .boolean) :: gw) ({ frames := 0, cells := 0, slots := 0, locals := 0 }) (va_Pc [.int a] (fun U => U.heap.size = sz ∧ va_P (dC, dI) vwCl [] U.heap ∧ va_K (dC, dI) vwCl [] U ∧ va_D (fun _ => True) [] ∧ nx U)) (va_Qi (fun (r : Int32) (u : Unit) => (r = 1 ∧ (0 ≤ a.toInt ∧ a.toInt < 8)) ∨ (r = 0 ∧ ¬ (0 ≤ a.toInt ∧ a.toInt < 8))) (fun _ _ => True) (va_A [] sz)) 0 0 (va_A [] sz) := by
  refine Met.ofW (cc := cX10_isErrand) (maxL := 1) (ret := (some .boolean)) (by decide) rfl ?_
  intro p e s m args below meth c s₁ B hml hv
  obtain ⟨rfl, hsz, hP, hK, hD0, hN⟩ := hv
  have hx := B.exec
  have hb := B.bytes
  have hr := B.returns
  have hts := atoms_spec (ws := .code yX10_isErrand cX10_isErrand 1 (some .boolean) :: gw) B.pre
  have hg : ∀ w ∈ gw, w.before _ s = true := fun w h => hts w (List.mem_cons_of_mem _ h)
  have hown : s.vm.findClass RX10 = some m.cls := findClass_of_methodNamed B.named
  have hlocks := B.notSynchronized
  subst hsz
  have hD := hD0.self (sz := s.heap.size)
  generalize hAe : va_A [] s.heap.size = A at hD ⊢
  have hA : ∀ q : Nat, s.heap.size ≤ q → A q := fun q h => by rw [← hAe]; exact Or.inr h
  have hS : va_S A s.heap s.heap [] := va_S.rf
  have hP : va_P (dC, dI) vwCl [] s.heap := hP
  have hl := lv_entry ([.int a]) (n := 1) (Nat.le_of_ble_eq_true rfl)
  rw [lg_entry_eq]
  generalize (lg_sl ([.int a]) ++ List.replicate (1 - (lg_sl ([.int a])).length) Slot.unset).toArray = ls at hl ⊢
  have hl : lv_has ls 1 [(0, .int a)] := hl
  refine lv_iload_n hx hb dX10_isErrand_0 rfl (lv_at hl 0 rfl) ?_
  refine lv_if_lt (tgt := 14) hx hb dX10_isErrand_1 (by decide) (fun c_1 => ?_) (fun c_1 => ?_)
  · simp only [i_lt, i_le, i_eq, ti_0] at c_1
    refine lv_iconst (v := 0) hx hb dX10_isErrand_14 (by decide) ?_
    exact W.zret (v := 0) hx hb hr rfl (fun t ht hW => ⟨⟨0, (), rfl, (Or.inr ⟨rfl, by omega⟩), trivial⟩, hS.F ht⟩) hS.2.2 dX10_isErrand_15
  · simp only [i_lt, i_le, i_eq, ti_0] at c_1
    refine lv_iload_n hx hb dX10_isErrand_4 rfl (lv_at hl 0 rfl) ?_
    refine lv_bipush (v := 8) hx hb dX10_isErrand_5 (by decide) ?_
    refine lv_icmp_ge (tgt := 14) hx hb dX10_isErrand_7 (by decide) (fun c_2 => ?_) (fun c_2 => ?_)
    · simp only [i_lt, i_le, i_eq, ti_8] at c_2
      refine lv_iconst (v := 0) hx hb dX10_isErrand_14 (by decide) ?_
      exact W.zret (v := 0) hx hb hr rfl (fun t ht hW => ⟨⟨0, (), rfl, (Or.inr ⟨rfl, by omega⟩), trivial⟩, hS.F ht⟩) hS.2.2 dX10_isErrand_15
    · simp only [i_lt, i_le, i_eq, ti_8] at c_2
      refine lv_iconst (v := 1) hx hb dX10_isErrand_10 (by decide) ?_
      refine lv_goto (tgt := 15) hx hb dX10_isErrand_11 (by decide) ?_
      exact W.zret (v := 1) hx hb hr rfl (fun t ht hW => ⟨⟨1, (), rfl, (Or.inl ⟨rfl, by omega⟩), trivial⟩, hS.F ht⟩) hS.2.2 dX10_isErrand_15

set_option maxHeartbeats 4000000 in
set_option maxRecDepth 100000 in
theorem c_X9_fits (l : Launch) (dC : Nat → ClassId) (dI : Nat → Nat → Nat) (o : Int32) (a : Int32) (b : Int32) (w4 : Int32) (sz : Nat)  : Met l yX9_fits (.code yX9_fits cX9_fits 4 (some .boolean) :: gw) ({ frames := 1, cells := 0, slots := 0, locals := 20 }) (va_Pc [.int o, .int a, .int b, .int w4] (fun U => U.heap.size = sz ∧ va_P (dC, dI) vwCl [] U.heap ∧ va_K (dC, dI) vwCl [] U ∧ va_D (fun _ => True) [] ∧ nx U)) (va_Qi (fun (r : Int32) (u : Unit) => (r = 1 ∧ ((0 ≤ o.toInt ∧ o.toInt ≤ 3 ∧ 0 ≤ a.toInt ∧ a.toInt < 8) ∨ (o.toInt = 4 ∧ 0 ≤ a.toInt ∧ a.toInt < 8 ∧ (b.toInt = 0 ∨ b.toInt = 1)) ∨ (o.toInt = 5 ∧ 0 ≤ a.toInt ∧ a.toInt < 8 ∧ 2 ≤ b.toInt ∧ b.toInt ≤ 4) ∨ (o.toInt = 8 ∧ 0 ≤ a.toInt ∧ a.toInt < 4) ∨ (o.toInt = 9 ∧ 0 ≤ a.toInt ∧ a.toInt ≤ 8 ∧ w4.toInt < b.toInt ∧ b.toInt ≤ 24) ∨ o.toInt = 6 ∨ o.toInt = 7 ∨ (10 ≤ o.toInt ∧ o.toInt ≤ 12))) ∨ (r = 0 ∧ ¬ ((0 ≤ o.toInt ∧ o.toInt ≤ 3 ∧ 0 ≤ a.toInt ∧ a.toInt < 8) ∨ (o.toInt = 4 ∧ 0 ≤ a.toInt ∧ a.toInt < 8 ∧ (b.toInt = 0 ∨ b.toInt = 1)) ∨ (o.toInt = 5 ∧ 0 ≤ a.toInt ∧ a.toInt < 8 ∧ 2 ≤ b.toInt ∧ b.toInt ≤ 4) ∨ (o.toInt = 8 ∧ 0 ≤ a.toInt ∧ a.toInt < 4) ∨ (o.toInt = 9 ∧ 0 ≤ a.toInt ∧ a.toInt ≤ 8 ∧ w4.toInt < b.toInt ∧ b.toInt ≤ 24) ∨ o.toInt = 6 ∨ o.toInt = 7 ∨ (10 ≤ o.toInt ∧ o.toInt ≤ 12)))) (fun _ _ => True) (va_A [] sz)) 0 0 (va_A [] sz) := by
  refine Met.ofW (cc := cX9_fits) (maxL := 4) (ret := (some .boolean)) (by decide) rfl ?_
  intro p e s m args below meth c s₁ B hml hv
  obtain ⟨rfl, hsz, hP, hK, hD0, hN⟩ := hv
  have hx := B.exec
  have hb := B.bytes
  have hr := B.returns
  have hts := atoms_spec (ws := .code yX9_fits cX9_fits 4 (some .boolean) :: gw) B.pre
  have hg : ∀ w ∈ gw, w.before _ s = true := fun w h => hts w (List.mem_cons_of_mem _ h)
  have hown : s.vm.findClass RX9 = some m.cls := findClass_of_methodNamed B.named
  have hlocks := B.notSynchronized
  subst hsz
  have hD := hD0.self (sz := s.heap.size)
  generalize hAe : va_A [] s.heap.size = A at hD ⊢
  have hA : ∀ q : Nat, s.heap.size ≤ q → A q := fun q h => by rw [← hAe]; exact Or.inr h
  have hS : va_S A s.heap s.heap [] := va_S.rf
  have hP : va_P (dC, dI) vwCl [] s.heap := hP
  have hl := lv_entry ([.int o, .int a, .int b, .int w4]) (n := 4) (Nat.le_of_ble_eq_true rfl)
  rw [lg_entry_eq]
  generalize (lg_sl ([.int o, .int a, .int b, .int w4]) ++ List.replicate (4 - (lg_sl ([.int o, .int a, .int b, .int w4])).length) Slot.unset).toArray = ls at hl ⊢
  have hl : lv_has ls 4 [(0, .int o), (1, .int a), (2, .int b), (3, .int w4)] := hl
  refine lv_iload_n hx hb dX9_fits_0 rfl (lv_at hl 0 rfl) ?_
  rcases (show (o.toInt < 0 ∨ 12 < o.toInt) ∨ o.toInt = 0 ∨ o.toInt = 1 ∨ o.toInt = 2 ∨ o.toInt = 3 ∨ o.toInt = 4 ∨ o.toInt = 5 ∨ o.toInt = 6 ∨ o.toInt = 7 ∨ o.toInt = 8 ∨ o.toInt = 9 ∨ o.toInt = 10 ∨ o.toInt = 11 ∨ o.toInt = 12 by omega) with sw_1 | sw_1 | sw_1 | sw_1 | sw_1 | sw_1 | sw_1 | sw_1 | sw_1 | sw_1 | sw_1 | sw_1 | sw_1 | sw_1
  · refine lv_tableOut (tgt := 162) hx hb dX9_fits_1 sw_1 (by decide) ?_
    refine lv_iconst (v := 0) hx hb dX9_fits_162 (by decide) ?_
    exact W.zret (v := 0) hx hb hr rfl (fun t ht hW => ⟨⟨0, (), rfl, (Or.inr ⟨rfl, by omega⟩), trivial⟩, hS.F ht⟩) hS.2.2 dX9_fits_163
  · refine lv_tableIn (tgt := 68) hx hb dX9_fits_1 (by omega) (by omega) (by rw [sw_1]; rfl) (by decide) ?_
    refine lv_iload_n hx hb dX9_fits_68 rfl (lv_at hl 1 rfl) ?_
    have hPc := hP.sub (ws' := []) [] rfl
    have hDc := hD.sub (ws' := []) [] (by decide) rfl
    have hKc := hK.sub (tys' := []) [] rfl
    have hFc := va_free (wc := []) hD hS hA [] rfl
    refine va_calli (va_runS (As := [.int a]) (rest := []) ⟨hx, hb, hml, hown, hg⟩ (c_X9_isSlot l dC dI a s.heap.size ) (va_cwS 1 hg (gw_S gm_methodLink_RX9_62_yX9_isSlot gm_static_yX9_isSlot gm_initialized_RX9 gm_code_yX9_isSlot_cX9_isSlot_1_some_boolean_) rfl rfl rfl (by decide +kernel) ⟨Nat.le_of_ble_eq_true rfl, Nat.le_of_ble_eq_true rfl⟩) ⟨fun a U g mk q => by obtain ⟨q0, q1, qP, qK, qD, qN⟩ := q; exact ⟨q0, q1, qP, va_K.moved (u := U) (U := U.calling g mk a) (Vm.Alike.refl U.vm) qK, qD, nx_same (u := U) (U := U.calling g mk a) rfl qN⟩, fun U hU hW => ⟨rfl, by rw [hU], by rw [hU]; exact hPc, va_K.moved hW.alike hKc, hDc.weaken (fun _ _ _ _ => trivial), nx_warm hW hN⟩⟩ rfl rfl hl.1 rfl (lv_room (Nat.le_of_ble_eq_true rfl)) dX9_fits_69 ⟨Nat.le_of_ble_eq_true rfl, Nat.le_of_ble_eq_true rfl⟩) hS (fun q _ h => hFc q h) hFc (fun r_2 u_3 t H1 locs ht hvm hw hB hz1 hk1 hS => ?_)
    have hP1 : va_P (dC, dI) vwCl [] H1 := nil_P
    have hD1 := nil_D (A := va_A [] s.heap.size)
    obtain ⟨hP, hD⟩ := va_join (wr := []) (w1 := []) hP hD [] [] rfl rfl (by decide) (by decide +kernel) hk1 hFc hP1 hD1
    generalize H1 = H at hP hS ⊢
    have hP : va_P (dC, dI) vwCl [] H := hP
    have hD : va_D A [] := hD
    refine W.widen (k := 0) (n := 0) (Nat.le_of_ble_eq_true rfl) (Nat.le_of_ble_eq_true rfl) ?_
    rcases hw with ⟨rfl, w_4⟩ | ⟨rfl, w_4⟩
    · exact W.zret (v := 1) hx hb hr rfl (fun t ht hW => ⟨⟨1, (), rfl, (Or.inl ⟨rfl, by omega⟩), trivial⟩, hS.F ht⟩) hS.2.2 dX9_fits_72
    · exact W.zret (v := 0) hx hb hr rfl (fun t ht hW => ⟨⟨0, (), rfl, (Or.inr ⟨rfl, by omega⟩), trivial⟩, hS.F ht⟩) hS.2.2 dX9_fits_72
  · refine lv_tableIn (tgt := 68) hx hb dX9_fits_1 (by omega) (by omega) (by rw [sw_1]; rfl) (by decide) ?_
    refine lv_iload_n hx hb dX9_fits_68 rfl (lv_at hl 1 rfl) ?_
    have hPc := hP.sub (ws' := []) [] rfl
    have hDc := hD.sub (ws' := []) [] (by decide) rfl
    have hKc := hK.sub (tys' := []) [] rfl
    have hFc := va_free (wc := []) hD hS hA [] rfl
    refine va_calli (va_runS (As := [.int a]) (rest := []) ⟨hx, hb, hml, hown, hg⟩ (c_X9_isSlot l dC dI a s.heap.size ) (va_cwS 1 hg (gw_S gm_methodLink_RX9_62_yX9_isSlot gm_static_yX9_isSlot gm_initialized_RX9 gm_code_yX9_isSlot_cX9_isSlot_1_some_boolean_) rfl rfl rfl (by decide +kernel) ⟨Nat.le_of_ble_eq_true rfl, Nat.le_of_ble_eq_true rfl⟩) ⟨fun a U g mk q => by obtain ⟨q0, q1, qP, qK, qD, qN⟩ := q; exact ⟨q0, q1, qP, va_K.moved (u := U) (U := U.calling g mk a) (Vm.Alike.refl U.vm) qK, qD, nx_same (u := U) (U := U.calling g mk a) rfl qN⟩, fun U hU hW => ⟨rfl, by rw [hU], by rw [hU]; exact hPc, va_K.moved hW.alike hKc, hDc.weaken (fun _ _ _ _ => trivial), nx_warm hW hN⟩⟩ rfl rfl hl.1 rfl (lv_room (Nat.le_of_ble_eq_true rfl)) dX9_fits_69 ⟨Nat.le_of_ble_eq_true rfl, Nat.le_of_ble_eq_true rfl⟩) hS (fun q _ h => hFc q h) hFc (fun r_5 u_6 t H1 locs ht hvm hw hB hz1 hk1 hS => ?_)
    have hP1 : va_P (dC, dI) vwCl [] H1 := nil_P
    have hD1 := nil_D (A := va_A [] s.heap.size)
    obtain ⟨hP, hD⟩ := va_join (wr := []) (w1 := []) hP hD [] [] rfl rfl (by decide) (by decide +kernel) hk1 hFc hP1 hD1
    generalize H1 = H at hP hS ⊢
    have hP : va_P (dC, dI) vwCl [] H := hP
    have hD : va_D A [] := hD
    refine W.widen (k := 0) (n := 0) (Nat.le_of_ble_eq_true rfl) (Nat.le_of_ble_eq_true rfl) ?_
    rcases hw with ⟨rfl, w_7⟩ | ⟨rfl, w_7⟩
    · exact W.zret (v := 1) hx hb hr rfl (fun t ht hW => ⟨⟨1, (), rfl, (Or.inl ⟨rfl, by omega⟩), trivial⟩, hS.F ht⟩) hS.2.2 dX9_fits_72
    · exact W.zret (v := 0) hx hb hr rfl (fun t ht hW => ⟨⟨0, (), rfl, (Or.inr ⟨rfl, by omega⟩), trivial⟩, hS.F ht⟩) hS.2.2 dX9_fits_72
  · refine lv_tableIn (tgt := 68) hx hb dX9_fits_1 (by omega) (by omega) (by rw [sw_1]; rfl) (by decide) ?_
    refine lv_iload_n hx hb dX9_fits_68 rfl (lv_at hl 1 rfl) ?_
    have hPc := hP.sub (ws' := []) [] rfl
    have hDc := hD.sub (ws' := []) [] (by decide) rfl
    have hKc := hK.sub (tys' := []) [] rfl
    have hFc := va_free (wc := []) hD hS hA [] rfl
    refine va_calli (va_runS (As := [.int a]) (rest := []) ⟨hx, hb, hml, hown, hg⟩ (c_X9_isSlot l dC dI a s.heap.size ) (va_cwS 1 hg (gw_S gm_methodLink_RX9_62_yX9_isSlot gm_static_yX9_isSlot gm_initialized_RX9 gm_code_yX9_isSlot_cX9_isSlot_1_some_boolean_) rfl rfl rfl (by decide +kernel) ⟨Nat.le_of_ble_eq_true rfl, Nat.le_of_ble_eq_true rfl⟩) ⟨fun a U g mk q => by obtain ⟨q0, q1, qP, qK, qD, qN⟩ := q; exact ⟨q0, q1, qP, va_K.moved (u := U) (U := U.calling g mk a) (Vm.Alike.refl U.vm) qK, qD, nx_same (u := U) (U := U.calling g mk a) rfl qN⟩, fun U hU hW => ⟨rfl, by rw [hU], by rw [hU]; exact hPc, va_K.moved hW.alike hKc, hDc.weaken (fun _ _ _ _ => trivial), nx_warm hW hN⟩⟩ rfl rfl hl.1 rfl (lv_room (Nat.le_of_ble_eq_true rfl)) dX9_fits_69 ⟨Nat.le_of_ble_eq_true rfl, Nat.le_of_ble_eq_true rfl⟩) hS (fun q _ h => hFc q h) hFc (fun r_8 u_9 t H1 locs ht hvm hw hB hz1 hk1 hS => ?_)
    have hP1 : va_P (dC, dI) vwCl [] H1 := nil_P
    have hD1 := nil_D (A := va_A [] s.heap.size)
    obtain ⟨hP, hD⟩ := va_join (wr := []) (w1 := []) hP hD [] [] rfl rfl (by decide) (by decide +kernel) hk1 hFc hP1 hD1
    generalize H1 = H at hP hS ⊢
    have hP : va_P (dC, dI) vwCl [] H := hP
    have hD : va_D A [] := hD
    refine W.widen (k := 0) (n := 0) (Nat.le_of_ble_eq_true rfl) (Nat.le_of_ble_eq_true rfl) ?_
    rcases hw with ⟨rfl, w_10⟩ | ⟨rfl, w_10⟩
    · exact W.zret (v := 1) hx hb hr rfl (fun t ht hW => ⟨⟨1, (), rfl, (Or.inl ⟨rfl, by omega⟩), trivial⟩, hS.F ht⟩) hS.2.2 dX9_fits_72
    · exact W.zret (v := 0) hx hb hr rfl (fun t ht hW => ⟨⟨0, (), rfl, (Or.inr ⟨rfl, by omega⟩), trivial⟩, hS.F ht⟩) hS.2.2 dX9_fits_72
  · refine lv_tableIn (tgt := 68) hx hb dX9_fits_1 (by omega) (by omega) (by rw [sw_1]; rfl) (by decide) ?_
    refine lv_iload_n hx hb dX9_fits_68 rfl (lv_at hl 1 rfl) ?_
    have hPc := hP.sub (ws' := []) [] rfl
    have hDc := hD.sub (ws' := []) [] (by decide) rfl
    have hKc := hK.sub (tys' := []) [] rfl
    have hFc := va_free (wc := []) hD hS hA [] rfl
    refine va_calli (va_runS (As := [.int a]) (rest := []) ⟨hx, hb, hml, hown, hg⟩ (c_X9_isSlot l dC dI a s.heap.size ) (va_cwS 1 hg (gw_S gm_methodLink_RX9_62_yX9_isSlot gm_static_yX9_isSlot gm_initialized_RX9 gm_code_yX9_isSlot_cX9_isSlot_1_some_boolean_) rfl rfl rfl (by decide +kernel) ⟨Nat.le_of_ble_eq_true rfl, Nat.le_of_ble_eq_true rfl⟩) ⟨fun a U g mk q => by obtain ⟨q0, q1, qP, qK, qD, qN⟩ := q; exact ⟨q0, q1, qP, va_K.moved (u := U) (U := U.calling g mk a) (Vm.Alike.refl U.vm) qK, qD, nx_same (u := U) (U := U.calling g mk a) rfl qN⟩, fun U hU hW => ⟨rfl, by rw [hU], by rw [hU]; exact hPc, va_K.moved hW.alike hKc, hDc.weaken (fun _ _ _ _ => trivial), nx_warm hW hN⟩⟩ rfl rfl hl.1 rfl (lv_room (Nat.le_of_ble_eq_true rfl)) dX9_fits_69 ⟨Nat.le_of_ble_eq_true rfl, Nat.le_of_ble_eq_true rfl⟩) hS (fun q _ h => hFc q h) hFc (fun r_11 u_12 t H1 locs ht hvm hw hB hz1 hk1 hS => ?_)
    have hP1 : va_P (dC, dI) vwCl [] H1 := nil_P
    have hD1 := nil_D (A := va_A [] s.heap.size)
    obtain ⟨hP, hD⟩ := va_join (wr := []) (w1 := []) hP hD [] [] rfl rfl (by decide) (by decide +kernel) hk1 hFc hP1 hD1
    generalize H1 = H at hP hS ⊢
    have hP : va_P (dC, dI) vwCl [] H := hP
    have hD : va_D A [] := hD
    refine W.widen (k := 0) (n := 0) (Nat.le_of_ble_eq_true rfl) (Nat.le_of_ble_eq_true rfl) ?_
    rcases hw with ⟨rfl, w_13⟩ | ⟨rfl, w_13⟩
    · exact W.zret (v := 1) hx hb hr rfl (fun t ht hW => ⟨⟨1, (), rfl, (Or.inl ⟨rfl, by omega⟩), trivial⟩, hS.F ht⟩) hS.2.2 dX9_fits_72
    · exact W.zret (v := 0) hx hb hr rfl (fun t ht hW => ⟨⟨0, (), rfl, (Or.inr ⟨rfl, by omega⟩), trivial⟩, hS.F ht⟩) hS.2.2 dX9_fits_72
  · refine lv_tableIn (tgt := 73) hx hb dX9_fits_1 (by omega) (by omega) (by rw [sw_1]; rfl) (by decide) ?_
    refine lv_iload_n hx hb dX9_fits_73 rfl (lv_at hl 1 rfl) ?_
    have hPc := hP.sub (ws' := []) [] rfl
    have hDc := hD.sub (ws' := []) [] (by decide) rfl
    have hKc := hK.sub (tys' := []) [] rfl
    have hFc := va_free (wc := []) hD hS hA [] rfl
    refine va_calli (va_runS (As := [.int a]) (rest := []) ⟨hx, hb, hml, hown, hg⟩ (c_X9_isErrand l dC dI a s.heap.size ) (va_cwS 1 hg (gw_S gm_methodLink_RX9_111_yX9_isErrand gm_static_yX9_isErrand gm_initialized_RX9 gm_code_yX9_isErrand_cX9_isErrand_1_some_boolean_) rfl rfl rfl (by decide +kernel) ⟨Nat.le_of_ble_eq_true rfl, Nat.le_of_ble_eq_true rfl⟩) ⟨fun a U g mk q => by obtain ⟨q0, q1, qP, qK, qD, qN⟩ := q; exact ⟨q0, q1, qP, va_K.moved (u := U) (U := U.calling g mk a) (Vm.Alike.refl U.vm) qK, qD, nx_same (u := U) (U := U.calling g mk a) rfl qN⟩, fun U hU hW => ⟨rfl, by rw [hU], by rw [hU]; exact hPc, va_K.moved hW.alike hKc, hDc.weaken (fun _ _ _ _ => trivial), nx_warm hW hN⟩⟩ rfl rfl hl.1 rfl (lv_room (Nat.le_of_ble_eq_true rfl)) dX9_fits_74 ⟨Nat.le_of_ble_eq_true rfl, Nat.le_of_ble_eq_true rfl⟩) hS (fun q _ h => hFc q h) hFc (fun r_14 u_15 t H1 locs ht hvm hw hB hz1 hk1 hS => ?_)
    have hP1 : va_P (dC, dI) vwCl [] H1 := nil_P
    have hD1 := nil_D (A := va_A [] s.heap.size)
    obtain ⟨hP, hD⟩ := va_join (wr := []) (w1 := []) hP hD [] [] rfl rfl (by decide) (by decide +kernel) hk1 hFc hP1 hD1
    generalize H1 = H at hP hS ⊢
    have hP : va_P (dC, dI) vwCl [] H := hP
    have hD : va_D A [] := hD
    refine W.widen (k := 0) (n := 0) (Nat.le_of_ble_eq_true rfl) (Nat.le_of_ble_eq_true rfl) ?_
    rcases hw with ⟨rfl, w_16⟩ | ⟨rfl, w_16⟩
    · refine lv_if_eq (tgt := 93) hx hb dX9_fits_77 (by decide) (fun c_17 => absurd c_17 (by decide)) (fun _ => ?_)
      refine lv_iload_n hx hb dX9_fits_80 rfl (lv_at hl 2 rfl) ?_
      refine lv_if_eq (tgt := 89) hx hb dX9_fits_81 (by decide) (fun c_18 => ?_) (fun c_18 => ?_)
      · simp only [i_lt, i_le, i_eq, ti_0] at c_18
        refine lv_iconst (v := 1) hx hb dX9_fits_89 (by decide) ?_
        refine lv_goto (tgt := 94) hx hb dX9_fits_90 (by decide) ?_
        exact W.zret (v := 1) hx hb hr rfl (fun t ht hW => ⟨⟨1, (), rfl, (Or.inl ⟨rfl, by omega⟩), trivial⟩, hS.F ht⟩) hS.2.2 dX9_fits_94
      · simp only [i_lt, i_le, i_eq, ti_0] at c_18
        refine lv_iload_n hx hb dX9_fits_84 rfl (lv_at hl 2 rfl) ?_
        refine lv_iconst (v := 1) hx hb dX9_fits_85 (by decide) ?_
        refine lv_icmp_ne (tgt := 93) hx hb dX9_fits_86 (by decide) (fun c_19 => ?_) (fun c_19 => ?_)
        · simp only [i_lt, i_le, i_eq, ti_1] at c_19
          refine lv_iconst (v := 0) hx hb dX9_fits_93 (by decide) ?_
          exact W.zret (v := 0) hx hb hr rfl (fun t ht hW => ⟨⟨0, (), rfl, (Or.inr ⟨rfl, by omega⟩), trivial⟩, hS.F ht⟩) hS.2.2 dX9_fits_94
        · simp only [i_lt, i_le, i_eq, ti_1] at c_19
          refine lv_iconst (v := 1) hx hb dX9_fits_89 (by decide) ?_
          refine lv_goto (tgt := 94) hx hb dX9_fits_90 (by decide) ?_
          exact W.zret (v := 1) hx hb hr rfl (fun t ht hW => ⟨⟨1, (), rfl, (Or.inl ⟨rfl, by omega⟩), trivial⟩, hS.F ht⟩) hS.2.2 dX9_fits_94
    · refine lv_if_eq (tgt := 93) hx hb dX9_fits_77 (by decide) (fun _ => ?_) (fun c_20 => absurd c_20 (by decide))
      refine lv_iconst (v := 0) hx hb dX9_fits_93 (by decide) ?_
      exact W.zret (v := 0) hx hb hr rfl (fun t ht hW => ⟨⟨0, (), rfl, (Or.inr ⟨rfl, by omega⟩), trivial⟩, hS.F ht⟩) hS.2.2 dX9_fits_94
  · refine lv_tableIn (tgt := 95) hx hb dX9_fits_1 (by omega) (by omega) (by rw [sw_1]; rfl) (by decide) ?_
    refine lv_iload_n hx hb dX9_fits_95 rfl (lv_at hl 1 rfl) ?_
    have hPc := hP.sub (ws' := []) [] rfl
    have hDc := hD.sub (ws' := []) [] (by decide) rfl
    have hKc := hK.sub (tys' := []) [] rfl
    have hFc := va_free (wc := []) hD hS hA [] rfl
    refine va_calli (va_runS (As := [.int a]) (rest := []) ⟨hx, hb, hml, hown, hg⟩ (c_X9_isErrand l dC dI a s.heap.size ) (va_cwS 1 hg (gw_S gm_methodLink_RX9_111_yX9_isErrand gm_static_yX9_isErrand gm_initialized_RX9 gm_code_yX9_isErrand_cX9_isErrand_1_some_boolean_) rfl rfl rfl (by decide +kernel) ⟨Nat.le_of_ble_eq_true rfl, Nat.le_of_ble_eq_true rfl⟩) ⟨fun a U g mk q => by obtain ⟨q0, q1, qP, qK, qD, qN⟩ := q; exact ⟨q0, q1, qP, va_K.moved (u := U) (U := U.calling g mk a) (Vm.Alike.refl U.vm) qK, qD, nx_same (u := U) (U := U.calling g mk a) rfl qN⟩, fun U hU hW => ⟨rfl, by rw [hU], by rw [hU]; exact hPc, va_K.moved hW.alike hKc, hDc.weaken (fun _ _ _ _ => trivial), nx_warm hW hN⟩⟩ rfl rfl hl.1 rfl (lv_room (Nat.le_of_ble_eq_true rfl)) dX9_fits_96 ⟨Nat.le_of_ble_eq_true rfl, Nat.le_of_ble_eq_true rfl⟩) hS (fun q _ h => hFc q h) hFc (fun r_21 u_22 t H1 locs ht hvm hw hB hz1 hk1 hS => ?_)
    have hP1 : va_P (dC, dI) vwCl [] H1 := nil_P
    have hD1 := nil_D (A := va_A [] s.heap.size)
    obtain ⟨hP, hD⟩ := va_join (wr := []) (w1 := []) hP hD [] [] rfl rfl (by decide) (by decide +kernel) hk1 hFc hP1 hD1
    generalize H1 = H at hP hS ⊢
    have hP : va_P (dC, dI) vwCl [] H := hP
    have hD : va_D A [] := hD
    refine W.widen (k := 0) (n := 0) (Nat.le_of_ble_eq_true rfl) (Nat.le_of_ble_eq_true rfl) ?_
    rcases hw with ⟨rfl, w_23⟩ | ⟨rfl, w_23⟩
    · refine lv_if_eq (tgt := 116) hx hb dX9_fits_99 (by decide) (fun c_24 => absurd c_24 (by decide)) (fun _ => ?_)
      refine lv_iload_n hx hb dX9_fits_102 rfl (lv_at hl 2 rfl) ?_
      refine lv_iconst (v := 2) hx hb dX9_fits_103 (by decide) ?_
      refine lv_icmp_lt (tgt := 116) hx hb dX9_fits_104 (by decide) (fun c_25 => ?_) (fun c_25 => ?_)
      · simp only [i_lt, i_le, i_eq, ti_2] at c_25
        refine lv_iconst (v := 0) hx hb dX9_fits_116 (by decide) ?_
        exact W.zret (v := 0) hx hb hr rfl (fun t ht hW => ⟨⟨0, (), rfl, (Or.inr ⟨rfl, by omega⟩), trivial⟩, hS.F ht⟩) hS.2.2 dX9_fits_117
      · simp only [i_lt, i_le, i_eq, ti_2] at c_25
        refine lv_iload_n hx hb dX9_fits_107 rfl (lv_at hl 2 rfl) ?_
        refine lv_iconst (v := 4) hx hb dX9_fits_108 (by decide) ?_
        refine lv_icmp_gt (tgt := 116) hx hb dX9_fits_109 (by decide) (fun c_26 => ?_) (fun c_26 => ?_)
        · simp only [i_lt, i_le, i_eq, ti_4] at c_26
          refine lv_iconst (v := 0) hx hb dX9_fits_116 (by decide) ?_
          exact W.zret (v := 0) hx hb hr rfl (fun t ht hW => ⟨⟨0, (), rfl, (Or.inr ⟨rfl, by omega⟩), trivial⟩, hS.F ht⟩) hS.2.2 dX9_fits_117
        · simp only [i_lt, i_le, i_eq, ti_4] at c_26
          refine lv_iconst (v := 1) hx hb dX9_fits_112 (by decide) ?_
          refine lv_goto (tgt := 117) hx hb dX9_fits_113 (by decide) ?_
          exact W.zret (v := 1) hx hb hr rfl (fun t ht hW => ⟨⟨1, (), rfl, (Or.inl ⟨rfl, by omega⟩), trivial⟩, hS.F ht⟩) hS.2.2 dX9_fits_117
    · refine lv_if_eq (tgt := 116) hx hb dX9_fits_99 (by decide) (fun _ => ?_) (fun c_27 => absurd c_27 (by decide))
      refine lv_iconst (v := 0) hx hb dX9_fits_116 (by decide) ?_
      exact W.zret (v := 0) hx hb hr rfl (fun t ht hW => ⟨⟨0, (), rfl, (Or.inr ⟨rfl, by omega⟩), trivial⟩, hS.F ht⟩) hS.2.2 dX9_fits_117
  · refine lv_tableIn (tgt := 160) hx hb dX9_fits_1 (by omega) (by omega) (by rw [sw_1]; rfl) (by decide) ?_
    refine lv_iconst (v := 1) hx hb dX9_fits_160 (by decide) ?_
    exact W.zret (v := 1) hx hb hr rfl (fun t ht hW => ⟨⟨1, (), rfl, (Or.inl ⟨rfl, by omega⟩), trivial⟩, hS.F ht⟩) hS.2.2 dX9_fits_161
  · refine lv_tableIn (tgt := 160) hx hb dX9_fits_1 (by omega) (by omega) (by rw [sw_1]; rfl) (by decide) ?_
    refine lv_iconst (v := 1) hx hb dX9_fits_160 (by decide) ?_
    exact W.zret (v := 1) hx hb hr rfl (fun t ht hW => ⟨⟨1, (), rfl, (Or.inl ⟨rfl, by omega⟩), trivial⟩, hS.F ht⟩) hS.2.2 dX9_fits_161
  · refine lv_tableIn (tgt := 118) hx hb dX9_fits_1 (by omega) (by omega) (by rw [sw_1]; rfl) (by decide) ?_
    refine lv_iload_n hx hb dX9_fits_118 rfl (lv_at hl 1 rfl) ?_
    refine lv_if_lt (tgt := 131) hx hb dX9_fits_119 (by decide) (fun c_28 => ?_) (fun c_28 => ?_)
    · simp only [i_lt, i_le, i_eq, ti_0] at c_28
      refine lv_iconst (v := 0) hx hb dX9_fits_131 (by decide) ?_
      exact W.zret (v := 0) hx hb hr rfl (fun t ht hW => ⟨⟨0, (), rfl, (Or.inr ⟨rfl, by omega⟩), trivial⟩, hS.F ht⟩) hS.2.2 dX9_fits_132
    · simp only [i_lt, i_le, i_eq, ti_0] at c_28
      refine lv_iload_n hx hb dX9_fits_122 rfl (lv_at hl 1 rfl) ?_
      refine lv_iconst (v := 4) hx hb dX9_fits_123 (by decide) ?_
      refine lv_icmp_ge (tgt := 131) hx hb dX9_fits_124 (by decide) (fun c_29 => ?_) (fun c_29 => ?_)
      · simp only [i_lt, i_le, i_eq, ti_4] at c_29
        refine lv_iconst (v := 0) hx hb dX9_fits_131 (by decide) ?_
        exact W.zret (v := 0) hx hb hr rfl (fun t ht hW => ⟨⟨0, (), rfl, (Or.inr ⟨rfl, by omega⟩), trivial⟩, hS.F ht⟩) hS.2.2 dX9_fits_132
      · simp only [i_lt, i_le, i_eq, ti_4] at c_29
        refine lv_iconst (v := 1) hx hb dX9_fits_127 (by decide) ?_
        refine lv_goto (tgt := 132) hx hb dX9_fits_128 (by decide) ?_
        exact W.zret (v := 1) hx hb hr rfl (fun t ht hW => ⟨⟨1, (), rfl, (Or.inl ⟨rfl, by omega⟩), trivial⟩, hS.F ht⟩) hS.2.2 dX9_fits_132
  · refine lv_tableIn (tgt := 133) hx hb dX9_fits_1 (by omega) (by omega) (by rw [sw_1]; rfl) (by decide) ?_
    refine lv_iload_n hx hb dX9_fits_133 rfl (lv_at hl 1 rfl) ?_
    refine lv_if_lt (tgt := 158) hx hb dX9_fits_134 (by decide) (fun c_30 => ?_) (fun c_30 => ?_)
    · simp only [i_lt, i_le, i_eq, ti_0] at c_30
      refine lv_iconst (v := 0) hx hb dX9_fits_158 (by decide) ?_
      exact W.zret (v := 0) hx hb hr rfl (fun t ht hW => ⟨⟨0, (), rfl, (Or.inr ⟨rfl, by omega⟩), trivial⟩, hS.F ht⟩) hS.2.2 dX9_fits_159
    · simp only [i_lt, i_le, i_eq, ti_0] at c_30
      refine lv_iload_n hx hb dX9_fits_137 rfl (lv_at hl 1 rfl) ?_
      refine lv_bipush (v := 8) hx hb dX9_fits_138 (by decide) ?_
      refine lv_icmp_gt (tgt := 158) hx hb dX9_fits_140 (by decide) (fun c_31 => ?_) (fun c_31 => ?_)
      · simp only [i_lt, i_le, i_eq, ti_8] at c_31
        refine lv_iconst (v := 0) hx hb dX9_fits_158 (by decide) ?_
        exact W.zret (v := 0) hx hb hr rfl (fun t ht hW => ⟨⟨0, (), rfl, (Or.inr ⟨rfl, by omega⟩), trivial⟩, hS.F ht⟩) hS.2.2 dX9_fits_159
      · simp only [i_lt, i_le, i_eq, ti_8] at c_31
        refine lv_iload_n hx hb dX9_fits_143 rfl (lv_at hl 2 rfl) ?_
        refine lv_iload_n hx hb dX9_fits_144 rfl (lv_at hl 3 rfl) ?_
        refine lv_icmp_le (tgt := 158) hx hb dX9_fits_145 (by decide) (fun c_32 => ?_) (fun c_32 => ?_)
        · simp only [i_lt, i_le, i_eq] at c_32
          refine lv_iconst (v := 0) hx hb dX9_fits_158 (by decide) ?_
          exact W.zret (v := 0) hx hb hr rfl (fun t ht hW => ⟨⟨0, (), rfl, (Or.inr ⟨rfl, by omega⟩), trivial⟩, hS.F ht⟩) hS.2.2 dX9_fits_159
        · simp only [i_lt, i_le, i_eq] at c_32
          refine lv_iload_n hx hb dX9_fits_148 rfl (lv_at hl 2 rfl) ?_
          refine lv_bipush (v := 24) hx hb dX9_fits_149 (by decide) ?_
          refine lv_icmp_gt (tgt := 158) hx hb dX9_fits_151 (by decide) (fun c_33 => ?_) (fun c_33 => ?_)
          · simp only [i_lt, i_le, i_eq, ti_24] at c_33
            refine lv_iconst (v := 0) hx hb dX9_fits_158 (by decide) ?_
            exact W.zret (v := 0) hx hb hr rfl (fun t ht hW => ⟨⟨0, (), rfl, (Or.inr ⟨rfl, by omega⟩), trivial⟩, hS.F ht⟩) hS.2.2 dX9_fits_159
          · simp only [i_lt, i_le, i_eq, ti_24] at c_33
            refine lv_iconst (v := 1) hx hb dX9_fits_154 (by decide) ?_
            refine lv_goto (tgt := 159) hx hb dX9_fits_155 (by decide) ?_
            exact W.zret (v := 1) hx hb hr rfl (fun t ht hW => ⟨⟨1, (), rfl, (Or.inl ⟨rfl, by omega⟩), trivial⟩, hS.F ht⟩) hS.2.2 dX9_fits_159
  · refine lv_tableIn (tgt := 160) hx hb dX9_fits_1 (by omega) (by omega) (by rw [sw_1]; rfl) (by decide) ?_
    refine lv_iconst (v := 1) hx hb dX9_fits_160 (by decide) ?_
    exact W.zret (v := 1) hx hb hr rfl (fun t ht hW => ⟨⟨1, (), rfl, (Or.inl ⟨rfl, by omega⟩), trivial⟩, hS.F ht⟩) hS.2.2 dX9_fits_161
  · refine lv_tableIn (tgt := 160) hx hb dX9_fits_1 (by omega) (by omega) (by rw [sw_1]; rfl) (by decide) ?_
    refine lv_iconst (v := 1) hx hb dX9_fits_160 (by decide) ?_
    exact W.zret (v := 1) hx hb hr rfl (fun t ht hW => ⟨⟨1, (), rfl, (Or.inl ⟨rfl, by omega⟩), trivial⟩, hS.F ht⟩) hS.2.2 dX9_fits_161
  · refine lv_tableIn (tgt := 160) hx hb dX9_fits_1 (by omega) (by omega) (by rw [sw_1]; rfl) (by decide) ?_
    refine lv_iconst (v := 1) hx hb dX9_fits_160 (by decide) ?_
    exact W.zret (v := 1) hx hb hr rfl (fun t ht hW => ⟨⟨1, (), rfl, (Or.inl ⟨rfl, by omega⟩), trivial⟩, hS.F ht⟩) hS.2.2 dX9_fits_161

set_option maxHeartbeats 4000000 in
set_option maxRecDepth 100000 in
theorem c_X10_areGood (l : Launch) (dC : Nat → ClassId) (dI : Nat → Nat → Nat) (o : Int32) (a : Int32) (b : Int32) (w4 : Int32) (sz : Nat)  : Met l yX10_areGood (.code yX10_areGood cX10_areGood 4 (some .boolean) :: gw) ({ frames := 1, cells := 0, slots := 0, locals := 20 }) (va_Pc [.int o, .int a, .int b, .int w4] (fun U => U.heap.size = sz ∧ va_P (dC, dI) vwCl [] U.heap ∧ va_K (dC, dI) vwCl [] U ∧ va_D (fun _ => True) [] ∧ nx U)) (va_Qi (fun (r : Int32) (u : Unit) => (r = 1 ∧ ((0 ≤ o.toInt ∧ o.toInt ≤ 3 ∧ 0 ≤ a.toInt ∧ a.toInt < 8) ∨ (o.toInt = 4 ∧ 0 ≤ a.toInt ∧ a.toInt < 8 ∧ (b.toInt = 0 ∨ b.toInt = 1)) ∨ (o.toInt = 5 ∧ 0 ≤ a.toInt ∧ a.toInt < 8 ∧ 2 ≤ b.toInt ∧ b.toInt ≤ 4) ∨ (o.toInt = 8 ∧ 0 ≤ a.toInt ∧ a.toInt < 4) ∨ (o.toInt = 9 ∧ 0 ≤ a.toInt ∧ a.toInt ≤ 8 ∧ w4.toInt < b.toInt ∧ b.toInt ≤ 24) ∨ o.toInt = 6 ∨ o.toInt = 7 ∨ (10 ≤ o.toInt ∧ o.toInt ≤ 12))) ∨ (r = 0 ∧ ¬ ((0 ≤ o.toInt ∧ o.toInt ≤ 3 ∧ 0 ≤ a.toInt ∧ a.toInt < 8) ∨ (o.toInt = 4 ∧ 0 ≤ a.toInt ∧ a.toInt < 8 ∧ (b.toInt = 0 ∨ b.toInt = 1)) ∨ (o.toInt = 5 ∧ 0 ≤ a.toInt ∧ a.toInt < 8 ∧ 2 ≤ b.toInt ∧ b.toInt ≤ 4) ∨ (o.toInt = 8 ∧ 0 ≤ a.toInt ∧ a.toInt < 4) ∨ (o.toInt = 9 ∧ 0 ≤ a.toInt ∧ a.toInt ≤ 8 ∧ w4.toInt < b.toInt ∧ b.toInt ≤ 24) ∨ o.toInt = 6 ∨ o.toInt = 7 ∨ (10 ≤ o.toInt ∧ o.toInt ≤ 12)))) (fun _ _ => True) (va_A [] sz)) 0 0 (va_A [] sz) := by
  refine Met.ofW (cc := cX10_areGood) (maxL := 4) (ret := (some .boolean)) (by decide) rfl ?_
  intro p e s m args below meth c s₁ B hml hv
  obtain ⟨rfl, hsz, hP, hK, hD0, hN⟩ := hv
  have hx := B.exec
  have hb := B.bytes
  have hr := B.returns
  have hts := atoms_spec (ws := .code yX10_areGood cX10_areGood 4 (some .boolean) :: gw) B.pre
  have hg : ∀ w ∈ gw, w.before _ s = true := fun w h => hts w (List.mem_cons_of_mem _ h)
  have hown : s.vm.findClass RX10 = some m.cls := findClass_of_methodNamed B.named
  have hlocks := B.notSynchronized
  subst hsz
  have hD := hD0.self (sz := s.heap.size)
  generalize hAe : va_A [] s.heap.size = A at hD ⊢
  have hA : ∀ q : Nat, s.heap.size ≤ q → A q := fun q h => by rw [← hAe]; exact Or.inr h
  have hS : va_S A s.heap s.heap [] := va_S.rf
  have hP : va_P (dC, dI) vwCl [] s.heap := hP
  have hl := lv_entry ([.int o, .int a, .int b, .int w4]) (n := 4) (Nat.le_of_ble_eq_true rfl)
  rw [lg_entry_eq]
  generalize (lg_sl ([.int o, .int a, .int b, .int w4]) ++ List.replicate (4 - (lg_sl ([.int o, .int a, .int b, .int w4])).length) Slot.unset).toArray = ls at hl ⊢
  have hl : lv_has ls 4 [(0, .int o), (1, .int a), (2, .int b), (3, .int w4)] := hl
  refine lv_iload_n hx hb dX10_areGood_0 rfl (lv_at hl 0 rfl) ?_
  refine lv_if_lt (tgt := 10) hx hb dX10_areGood_1 (by decide) (fun c_1 => ?_) (fun c_1 => ?_)
  · simp only [i_lt, i_le, i_eq, ti_0] at c_1
    refine lv_iconst (v := 0) hx hb dX10_areGood_10 (by decide) ?_
    exact W.zret (v := 0) hx hb hr rfl (fun t ht hW => ⟨⟨0, (), rfl, (Or.inr ⟨rfl, by omega⟩), trivial⟩, hS.F ht⟩) hS.2.2 dX10_areGood_11
  · simp only [i_lt, i_le, i_eq, ti_0] at c_1
    refine lv_iload_n hx hb dX10_areGood_4 rfl (lv_at hl 0 rfl) ?_
    refine lv_bipush (v := 12) hx hb dX10_areGood_5 (by decide) ?_
    refine lv_icmp_le (tgt := 12) hx hb dX10_areGood_7 (by decide) (fun c_2 => ?_) (fun c_2 => ?_)
    · simp only [i_lt, i_le, i_eq, ti_12] at c_2
      refine lv_iload_n hx hb dX10_areGood_12 rfl (lv_at hl 0 rfl) ?_
      refine lv_iconst (v := 4) hx hb dX10_areGood_13 (by decide) ?_
      refine lv_icmp_ge (tgt := 22) hx hb dX10_areGood_14 (by decide) (fun c_3 => ?_) (fun c_3 => ?_)
      · simp only [i_lt, i_le, i_eq, ti_4] at c_3
        refine lv_iload_n hx hb dX10_areGood_22 rfl (lv_at hl 0 rfl) ?_
        refine lv_iconst (v := 4) hx hb dX10_areGood_23 (by decide) ?_
        refine lv_icmp_ne (tgt := 49) hx hb dX10_areGood_24 (by decide) (fun c_4 => ?_) (fun c_4 => ?_)
        · simp only [i_lt, i_le, i_eq, ti_4] at c_4
          refine lv_iload_n hx hb dX10_areGood_49 rfl (lv_at hl 0 rfl) ?_
          refine lv_iconst (v := 5) hx hb dX10_areGood_50 (by decide) ?_
          refine lv_icmp_ne (tgt := 77) hx hb dX10_areGood_51 (by decide) (fun c_5 => ?_) (fun c_5 => ?_)
          · simp only [i_lt, i_le, i_eq, ti_5] at c_5
            refine lv_iload_n hx hb dX10_areGood_77 rfl (lv_at hl 0 rfl) ?_
            refine lv_bipush (v := 8) hx hb dX10_areGood_78 (by decide) ?_
            refine lv_icmp_ne (tgt := 98) hx hb dX10_areGood_80 (by decide) (fun c_6 => ?_) (fun c_6 => ?_)
            · simp only [i_lt, i_le, i_eq, ti_8] at c_6
              refine lv_iload_n hx hb dX10_areGood_98 rfl (lv_at hl 0 rfl) ?_
              refine lv_bipush (v := 9) hx hb dX10_areGood_99 (by decide) ?_
              refine lv_icmp_ne (tgt := 125) hx hb dX10_areGood_101 (by decide) (fun c_7 => ?_) (fun c_7 => ?_)
              · simp only [i_lt, i_le, i_eq, ti_9] at c_7
                refine lv_iconst (v := 1) hx hb dX10_areGood_125 (by decide) ?_
                refine lv_goto (tgt := 130) hx hb dX10_areGood_126 (by decide) ?_
                exact W.zret (v := 1) hx hb hr rfl (fun t ht hW => ⟨⟨1, (), rfl, (Or.inl ⟨rfl, by omega⟩), trivial⟩, hS.F ht⟩) hS.2.2 dX10_areGood_130
              · simp only [i_lt, i_le, i_eq, ti_9] at c_7
                refine lv_iload_n hx hb dX10_areGood_104 rfl (lv_at hl 1 rfl) ?_
                refine lv_if_lt (tgt := 129) hx hb dX10_areGood_105 (by decide) (fun c_8 => ?_) (fun c_8 => ?_)
                · simp only [i_lt, i_le, i_eq, ti_0] at c_8
                  refine lv_iconst (v := 0) hx hb dX10_areGood_129 (by decide) ?_
                  exact W.zret (v := 0) hx hb hr rfl (fun t ht hW => ⟨⟨0, (), rfl, (Or.inr ⟨rfl, by omega⟩), trivial⟩, hS.F ht⟩) hS.2.2 dX10_areGood_130
                · simp only [i_lt, i_le, i_eq, ti_0] at c_8
                  refine lv_iload_n hx hb dX10_areGood_108 rfl (lv_at hl 1 rfl) ?_
                  refine lv_bipush (v := 8) hx hb dX10_areGood_109 (by decide) ?_
                  refine lv_icmp_gt (tgt := 129) hx hb dX10_areGood_111 (by decide) (fun c_9 => ?_) (fun c_9 => ?_)
                  · simp only [i_lt, i_le, i_eq, ti_8] at c_9
                    refine lv_iconst (v := 0) hx hb dX10_areGood_129 (by decide) ?_
                    exact W.zret (v := 0) hx hb hr rfl (fun t ht hW => ⟨⟨0, (), rfl, (Or.inr ⟨rfl, by omega⟩), trivial⟩, hS.F ht⟩) hS.2.2 dX10_areGood_130
                  · simp only [i_lt, i_le, i_eq, ti_8] at c_9
                    refine lv_iload_n hx hb dX10_areGood_114 rfl (lv_at hl 2 rfl) ?_
                    refine lv_iload_n hx hb dX10_areGood_115 rfl (lv_at hl 3 rfl) ?_
                    refine lv_icmp_le (tgt := 129) hx hb dX10_areGood_116 (by decide) (fun c_10 => ?_) (fun c_10 => ?_)
                    · simp only [i_lt, i_le, i_eq] at c_10
                      refine lv_iconst (v := 0) hx hb dX10_areGood_129 (by decide) ?_
                      exact W.zret (v := 0) hx hb hr rfl (fun t ht hW => ⟨⟨0, (), rfl, (Or.inr ⟨rfl, by omega⟩), trivial⟩, hS.F ht⟩) hS.2.2 dX10_areGood_130
                    · simp only [i_lt, i_le, i_eq] at c_10
                      refine lv_iload_n hx hb dX10_areGood_119 rfl (lv_at hl 2 rfl) ?_
                      refine lv_bipush (v := 24) hx hb dX10_areGood_120 (by decide) ?_
                      refine lv_icmp_gt (tgt := 129) hx hb dX10_areGood_122 (by decide) (fun c_11 => ?_) (fun c_11 => ?_)
                      · simp only [i_lt, i_le, i_eq, ti_24] at c_11
                        refine lv_iconst (v := 0) hx hb dX10_areGood_129 (by decide) ?_
                        exact W.zret (v := 0) hx hb hr rfl (fun t ht hW => ⟨⟨0, (), rfl, (Or.inr ⟨rfl, by omega⟩), trivial⟩, hS.F ht⟩) hS.2.2 dX10_areGood_130
                      · simp only [i_lt, i_le, i_eq, ti_24] at c_11
                        refine lv_iconst (v := 1) hx hb dX10_areGood_125 (by decide) ?_
                        refine lv_goto (tgt := 130) hx hb dX10_areGood_126 (by decide) ?_
                        exact W.zret (v := 1) hx hb hr rfl (fun t ht hW => ⟨⟨1, (), rfl, (Or.inl ⟨rfl, by omega⟩), trivial⟩, hS.F ht⟩) hS.2.2 dX10_areGood_130
            · simp only [i_lt, i_le, i_eq, ti_8] at c_6
              refine lv_iload_n hx hb dX10_areGood_83 rfl (lv_at hl 1 rfl) ?_
              refine lv_if_lt (tgt := 96) hx hb dX10_areGood_84 (by decide) (fun c_12 => ?_) (fun c_12 => ?_)
              · simp only [i_lt, i_le, i_eq, ti_0] at c_12
                refine lv_iconst (v := 0) hx hb dX10_areGood_96 (by decide) ?_
                exact W.zret (v := 0) hx hb hr rfl (fun t ht hW => ⟨⟨0, (), rfl, (Or.inr ⟨rfl, by omega⟩), trivial⟩, hS.F ht⟩) hS.2.2 dX10_areGood_97
              · simp only [i_lt, i_le, i_eq, ti_0] at c_12
                refine lv_iload_n hx hb dX10_areGood_87 rfl (lv_at hl 1 rfl) ?_
                refine lv_iconst (v := 3) hx hb dX10_areGood_88 (by decide) ?_
                refine lv_icmp_gt (tgt := 96) hx hb dX10_areGood_89 (by decide) (fun c_13 => ?_) (fun c_13 => ?_)
                · simp only [i_lt, i_le, i_eq, ti_3] at c_13
                  refine lv_iconst (v := 0) hx hb dX10_areGood_96 (by decide) ?_
                  exact W.zret (v := 0) hx hb hr rfl (fun t ht hW => ⟨⟨0, (), rfl, (Or.inr ⟨rfl, by omega⟩), trivial⟩, hS.F ht⟩) hS.2.2 dX10_areGood_97
                · simp only [i_lt, i_le, i_eq, ti_3] at c_13
                  refine lv_iconst (v := 1) hx hb dX10_areGood_92 (by decide) ?_
                  refine lv_goto (tgt := 97) hx hb dX10_areGood_93 (by decide) ?_
                  exact W.zret (v := 1) hx hb hr rfl (fun t ht hW => ⟨⟨1, (), rfl, (Or.inl ⟨rfl, by omega⟩), trivial⟩, hS.F ht⟩) hS.2.2 dX10_areGood_97
          · simp only [i_lt, i_le, i_eq, ti_5] at c_5
            refine lv_iload_n hx hb dX10_areGood_54 rfl (lv_at hl 1 rfl) ?_
            have hPc := hP.sub (ws' := []) [] rfl
            have hDc := hD.sub (ws' := []) [] (by decide) rfl
            have hKc := hK.sub (tys' := []) [] rfl
            have hFc := va_free (wc := []) hD hS hA [] rfl
            refine va_calli (va_runS (As := [.int a]) (rest := []) ⟨hx, hb, hml, hown, hg⟩ (c_X10_isErrand l dC dI a s.heap.size ) (va_cwS 1 hg (gw_S gm_methodLink_RX10_179_yX10_isErrand gm_static_yX10_isErrand gm_initialized_RX10 gm_code_yX10_isErrand_cX10_isErrand_1_some_boolean_) rfl rfl rfl (by decide +kernel) ⟨Nat.le_of_ble_eq_true rfl, Nat.le_of_ble_eq_true rfl⟩) ⟨fun a U g mk q => by obtain ⟨q0, q1, qP, qK, qD, qN⟩ := q; exact ⟨q0, q1, qP, va_K.moved (u := U) (U := U.calling g mk a) (Vm.Alike.refl U.vm) qK, qD, nx_same (u := U) (U := U.calling g mk a) rfl qN⟩, fun U hU hW => ⟨rfl, by rw [hU], by rw [hU]; exact hPc, va_K.moved hW.alike hKc, hDc.weaken (fun _ _ _ _ => trivial), nx_warm hW hN⟩⟩ rfl rfl hl.1 rfl (lv_room (Nat.le_of_ble_eq_true rfl)) dX10_areGood_55 ⟨Nat.le_of_ble_eq_true rfl, Nat.le_of_ble_eq_true rfl⟩) hS (fun q _ h => hFc q h) hFc (fun r_14 u_15 t H1 locs ht hvm hw hB hz1 hk1 hS => ?_)
            have hP1 : va_P (dC, dI) vwCl [] H1 := nil_P
            have hD1 := nil_D (A := va_A [] s.heap.size)
            obtain ⟨hP, hD⟩ := va_join (wr := []) (w1 := []) hP hD [] [] rfl rfl (by decide) (by decide +kernel) hk1 hFc hP1 hD1
            generalize H1 = H at hP hS ⊢
            have hP : va_P (dC, dI) vwCl [] H := hP
            have hD : va_D A [] := hD
            refine W.widen (k := 0) (n := 0) (Nat.le_of_ble_eq_true rfl) (Nat.le_of_ble_eq_true rfl) ?_
            rcases hw with ⟨rfl, w_16⟩ | ⟨rfl, w_16⟩
            · refine lv_if_eq (tgt := 75) hx hb dX10_areGood_58 (by decide) (fun c_17 => absurd c_17 (by decide)) (fun _ => ?_)
              refine lv_iload_n hx hb dX10_areGood_61 rfl (lv_at hl 2 rfl) ?_
              refine lv_iconst (v := 2) hx hb dX10_areGood_62 (by decide) ?_
              refine lv_icmp_lt (tgt := 75) hx hb dX10_areGood_63 (by decide) (fun c_18 => ?_) (fun c_18 => ?_)
              · simp only [i_lt, i_le, i_eq, ti_2] at c_18
                refine lv_iconst (v := 0) hx hb dX10_areGood_75 (by decide) ?_
                exact W.zret (v := 0) hx hb hr rfl (fun t ht hW => ⟨⟨0, (), rfl, (Or.inr ⟨rfl, by omega⟩), trivial⟩, hS.F ht⟩) hS.2.2 dX10_areGood_76
              · simp only [i_lt, i_le, i_eq, ti_2] at c_18
                refine lv_iload_n hx hb dX10_areGood_66 rfl (lv_at hl 2 rfl) ?_
                refine lv_iconst (v := 4) hx hb dX10_areGood_67 (by decide) ?_
                refine lv_icmp_gt (tgt := 75) hx hb dX10_areGood_68 (by decide) (fun c_19 => ?_) (fun c_19 => ?_)
                · simp only [i_lt, i_le, i_eq, ti_4] at c_19
                  refine lv_iconst (v := 0) hx hb dX10_areGood_75 (by decide) ?_
                  exact W.zret (v := 0) hx hb hr rfl (fun t ht hW => ⟨⟨0, (), rfl, (Or.inr ⟨rfl, by omega⟩), trivial⟩, hS.F ht⟩) hS.2.2 dX10_areGood_76
                · simp only [i_lt, i_le, i_eq, ti_4] at c_19
                  refine lv_iconst (v := 1) hx hb dX10_areGood_71 (by decide) ?_
                  refine lv_goto (tgt := 76) hx hb dX10_areGood_72 (by decide) ?_
                  exact W.zret (v := 1) hx hb hr rfl (fun t ht hW => ⟨⟨1, (), rfl, (Or.inl ⟨rfl, by omega⟩), trivial⟩, hS.F ht⟩) hS.2.2 dX10_areGood_76
            · refine lv_if_eq (tgt := 75) hx hb dX10_areGood_58 (by decide) (fun _ => ?_) (fun c_20 => absurd c_20 (by decide))
              refine lv_iconst (v := 0) hx hb dX10_areGood_75 (by decide) ?_
              exact W.zret (v := 0) hx hb hr rfl (fun t ht hW => ⟨⟨0, (), rfl, (Or.inr ⟨rfl, by omega⟩), trivial⟩, hS.F ht⟩) hS.2.2 dX10_areGood_76
        · simp only [i_lt, i_le, i_eq, ti_4] at c_4
          refine lv_iload_n hx hb dX10_areGood_27 rfl (lv_at hl 1 rfl) ?_
          have hPc := hP.sub (ws' := []) [] rfl
          have hDc := hD.sub (ws' := []) [] (by decide) rfl
          have hKc := hK.sub (tys' := []) [] rfl
          have hFc := va_free (wc := []) hD hS hA [] rfl
          refine va_calli (va_runS (As := [.int a]) (rest := []) ⟨hx, hb, hml, hown, hg⟩ (c_X10_isErrand l dC dI a s.heap.size ) (va_cwS 1 hg (gw_S gm_methodLink_RX10_179_yX10_isErrand gm_static_yX10_isErrand gm_initialized_RX10 gm_code_yX10_isErrand_cX10_isErrand_1_some_boolean_) rfl rfl rfl (by decide +kernel) ⟨Nat.le_of_ble_eq_true rfl, Nat.le_of_ble_eq_true rfl⟩) ⟨fun a U g mk q => by obtain ⟨q0, q1, qP, qK, qD, qN⟩ := q; exact ⟨q0, q1, qP, va_K.moved (u := U) (U := U.calling g mk a) (Vm.Alike.refl U.vm) qK, qD, nx_same (u := U) (U := U.calling g mk a) rfl qN⟩, fun U hU hW => ⟨rfl, by rw [hU], by rw [hU]; exact hPc, va_K.moved hW.alike hKc, hDc.weaken (fun _ _ _ _ => trivial), nx_warm hW hN⟩⟩ rfl rfl hl.1 rfl (lv_room (Nat.le_of_ble_eq_true rfl)) dX10_areGood_28 ⟨Nat.le_of_ble_eq_true rfl, Nat.le_of_ble_eq_true rfl⟩) hS (fun q _ h => hFc q h) hFc (fun r_21 u_22 t H1 locs ht hvm hw hB hz1 hk1 hS => ?_)
          have hP1 : va_P (dC, dI) vwCl [] H1 := nil_P
          have hD1 := nil_D (A := va_A [] s.heap.size)
          obtain ⟨hP, hD⟩ := va_join (wr := []) (w1 := []) hP hD [] [] rfl rfl (by decide) (by decide +kernel) hk1 hFc hP1 hD1
          generalize H1 = H at hP hS ⊢
          have hP : va_P (dC, dI) vwCl [] H := hP
          have hD : va_D A [] := hD
          refine W.widen (k := 0) (n := 0) (Nat.le_of_ble_eq_true rfl) (Nat.le_of_ble_eq_true rfl) ?_
          rcases hw with ⟨rfl, w_23⟩ | ⟨rfl, w_23⟩
          · refine lv_if_eq (tgt := 47) hx hb dX10_areGood_31 (by decide) (fun c_24 => absurd c_24 (by decide)) (fun _ => ?_)
            refine lv_iload_n hx hb dX10_areGood_34 rfl (lv_at hl 2 rfl) ?_
            refine lv_if_eq (tgt := 43) hx hb dX10_areGood_35 (by decide) (fun c_25 => ?_) (fun c_25 => ?_)
            · simp only [i_lt, i_le, i_eq, ti_0] at c_25
              refine lv_iconst (v := 1) hx hb dX10_areGood_43 (by decide) ?_
              refine lv_goto (tgt := 48) hx hb dX10_areGood_44 (by decide) ?_
              exact W.zret (v := 1) hx hb hr rfl (fun t ht hW => ⟨⟨1, (), rfl, (Or.inl ⟨rfl, by omega⟩), trivial⟩, hS.F ht⟩) hS.2.2 dX10_areGood_48
            · simp only [i_lt, i_le, i_eq, ti_0] at c_25
              refine lv_iload_n hx hb dX10_areGood_38 rfl (lv_at hl 2 rfl) ?_
              refine lv_iconst (v := 1) hx hb dX10_areGood_39 (by decide) ?_
              refine lv_icmp_ne (tgt := 47) hx hb dX10_areGood_40 (by decide) (fun c_26 => ?_) (fun c_26 => ?_)
              · simp only [i_lt, i_le, i_eq, ti_1] at c_26
                refine lv_iconst (v := 0) hx hb dX10_areGood_47 (by decide) ?_
                exact W.zret (v := 0) hx hb hr rfl (fun t ht hW => ⟨⟨0, (), rfl, (Or.inr ⟨rfl, by omega⟩), trivial⟩, hS.F ht⟩) hS.2.2 dX10_areGood_48
              · simp only [i_lt, i_le, i_eq, ti_1] at c_26
                refine lv_iconst (v := 1) hx hb dX10_areGood_43 (by decide) ?_
                refine lv_goto (tgt := 48) hx hb dX10_areGood_44 (by decide) ?_
                exact W.zret (v := 1) hx hb hr rfl (fun t ht hW => ⟨⟨1, (), rfl, (Or.inl ⟨rfl, by omega⟩), trivial⟩, hS.F ht⟩) hS.2.2 dX10_areGood_48
          · refine lv_if_eq (tgt := 47) hx hb dX10_areGood_31 (by decide) (fun _ => ?_) (fun c_27 => absurd c_27 (by decide))
            refine lv_iconst (v := 0) hx hb dX10_areGood_47 (by decide) ?_
            exact W.zret (v := 0) hx hb hr rfl (fun t ht hW => ⟨⟨0, (), rfl, (Or.inr ⟨rfl, by omega⟩), trivial⟩, hS.F ht⟩) hS.2.2 dX10_areGood_48
      · simp only [i_lt, i_le, i_eq, ti_4] at c_3
        refine lv_iload_n hx hb dX10_areGood_17 rfl (lv_at hl 1 rfl) ?_
        have hPc := hP.sub (ws' := []) [] rfl
        have hDc := hD.sub (ws' := []) [] (by decide) rfl
        have hKc := hK.sub (tys' := []) [] rfl
        have hFc := va_free (wc := []) hD hS hA [] rfl
        refine va_calli (va_runS (As := [.int a]) (rest := []) ⟨hx, hb, hml, hown, hg⟩ (c_X10_isSlot l dC dI a s.heap.size ) (va_cwS 1 hg (gw_S gm_methodLink_RX10_172_yX10_isSlot gm_static_yX10_isSlot gm_initialized_RX10 gm_code_yX10_isSlot_cX10_isSlot_1_some_boolean_) rfl rfl rfl (by decide +kernel) ⟨Nat.le_of_ble_eq_true rfl, Nat.le_of_ble_eq_true rfl⟩) ⟨fun a U g mk q => by obtain ⟨q0, q1, qP, qK, qD, qN⟩ := q; exact ⟨q0, q1, qP, va_K.moved (u := U) (U := U.calling g mk a) (Vm.Alike.refl U.vm) qK, qD, nx_same (u := U) (U := U.calling g mk a) rfl qN⟩, fun U hU hW => ⟨rfl, by rw [hU], by rw [hU]; exact hPc, va_K.moved hW.alike hKc, hDc.weaken (fun _ _ _ _ => trivial), nx_warm hW hN⟩⟩ rfl rfl hl.1 rfl (lv_room (Nat.le_of_ble_eq_true rfl)) dX10_areGood_18 ⟨Nat.le_of_ble_eq_true rfl, Nat.le_of_ble_eq_true rfl⟩) hS (fun q _ h => hFc q h) hFc (fun r_28 u_29 t H1 locs ht hvm hw hB hz1 hk1 hS => ?_)
        have hP1 : va_P (dC, dI) vwCl [] H1 := nil_P
        have hD1 := nil_D (A := va_A [] s.heap.size)
        obtain ⟨hP, hD⟩ := va_join (wr := []) (w1 := []) hP hD [] [] rfl rfl (by decide) (by decide +kernel) hk1 hFc hP1 hD1
        generalize H1 = H at hP hS ⊢
        have hP : va_P (dC, dI) vwCl [] H := hP
        have hD : va_D A [] := hD
        refine W.widen (k := 0) (n := 0) (Nat.le_of_ble_eq_true rfl) (Nat.le_of_ble_eq_true rfl) ?_
        rcases hw with ⟨rfl, w_30⟩ | ⟨rfl, w_30⟩
        · exact W.zret (v := 1) hx hb hr rfl (fun t ht hW => ⟨⟨1, (), rfl, (Or.inl ⟨rfl, by omega⟩), trivial⟩, hS.F ht⟩) hS.2.2 dX10_areGood_21
        · exact W.zret (v := 0) hx hb hr rfl (fun t ht hW => ⟨⟨0, (), rfl, (Or.inr ⟨rfl, by omega⟩), trivial⟩, hS.F ht⟩) hS.2.2 dX10_areGood_21
    · simp only [i_lt, i_le, i_eq, ti_12] at c_2
      refine lv_iconst (v := 0) hx hb dX10_areGood_10 (by decide) ?_
      exact W.zret (v := 0) hx hb hr rfl (fun t ht hW => ⟨⟨0, (), rfl, (Or.inr ⟨rfl, by omega⟩), trivial⟩, hS.F ht⟩) hS.2.2 dX10_areGood_11
