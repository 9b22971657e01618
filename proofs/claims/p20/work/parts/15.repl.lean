/-- cells put at their places, one by one -/
def setAll : va_W → List Nat → va_W → va_W
  | ws, [], _ => ws
  | ws, _ :: _, [] => ws
  | ws, p :: ps, c :: cs => setAll (ws.set p c) ps cs
theorem setAll_nil (ws cs : va_W) : setAll ws [] cs = ws := by unfold setAll; rfl
theorem setAll_nil2 (ws : va_W) (ps : List Nat) : setAll ws ps [] = ws := by cases ps <;> (unfold setAll; rfl)
theorem setAll_cons (ws cs : va_W) (p : Nat) (ps : List Nat) (c : Nat × va_E) : setAll ws (p :: ps) (c :: cs) = setAll (ws.set p c) ps cs := by rw [setAll]
theorem setAll_len : ∀ (ps : List Nat) (ws cs : va_W), (setAll ws ps cs).length = ws.length
  | [], ws, cs => by rw [setAll_nil]
  | _ :: _, ws, [] => by rw [setAll_nil2]
  | p :: ps, ws, c :: cs => by rw [setAll_cons, setAll_len ps, List.length_set]
theorem setAll_out : ∀ (ps : List Nat) (ws cs : va_W) (k : Nat), k ∉ ps → (setAll ws ps cs)[k]? = ws[k]?
  | [], ws, cs, _, _ => by rw [setAll_nil]
  | _ :: _, ws, [], _, _ => by rw [setAll_nil2]
  | p :: ps, ws, c :: cs, k, h => by
    rw [setAll_cons]
    have h1 : k ≠ p := fun e => h (by rw [e]; exact List.mem_cons_self)
    have h2 : k ∉ ps := fun e => h (List.mem_cons_of_mem _ e)
    rw [setAll_out ps _ _ k h2, List.getElem?_set_ne (fun e => h1 e.symm)]
theorem setAll_in : ∀ (ps : List Nat) (ws cs : va_W) (j k : Nat) (c : Nat × va_E), ps.Nodup → ps[j]? = some k → cs[j]? = some c → k < ws.length → (setAll ws ps cs)[k]? = some c
  | [], _, _, _, _, _, _, hj, _, _ => by simp at hj
  | _ :: _, _, [], _, _, _, _, _, hc, _ => by simp at hc
  | p :: ps, ws, c0 :: cs, j, k, c, hn, hj, hc, hk => by
    rw [setAll_cons]
    obtain ⟨hn1, hn2⟩ := List.nodup_cons.mp hn
    cases j with
    | zero =>
      simp only [List.getElem?_cons_zero, Option.some.injEq] at hj hc
      subst hj; subst hc
      rw [setAll_out ps _ _ _ hn1, List.getElem?_set_self hk]
    | succ j =>
      simp only [List.getElem?_cons_succ] at hj hc
      exact setAll_in ps _ cs j k c hn2 hj hc (by rw [List.length_set]; exact hk)
/-- the frame rule with the callee's cells put back at their places -/
theorem va_repl {A0 : Nat → Prop} {D : va_G} {cl : List vw_C} {ws wc w1 : va_W} {H H1 : Heap} (hP : va_P D cl ws H) (hD : va_D A0 ws) (ps : List Nat) (hC : ps.map (fun i => ws[i]?) = wc.map some) (hn : ps.Nodup) (hlen : w1.length = ps.length)
    (hk : ∀ q : Nat, q < H.size → ¬ va_A wc H.size q → H1[q]? = H[q]?) (hF : ∀ q, va_A wc H.size q → A0 q) (hP1 : va_P D cl w1 H1) (hD1 : va_D (va_A wc H.size) w1) : va_P D cl (setAll ws ps w1) H1 ∧ va_D A0 (setAll ws ps w1) := by
  have at' : ∀ (k : Nat) (q : Nat × va_E), wc[k]? = some q → ∃ i, ps[k]? = some i ∧ ws[i]? = some q := by
    intro k q hq
    have h1 : (ps.map (fun i => ws[i]?))[k]? = some (some q) := by rw [hC, List.getElem?_map, hq]; rfl
    rw [List.getElem?_map] at h1
    cases hi : ps[k]? with
    | none => rw [hi] at h1; cases h1
    | some i => rw [hi] at h1; exact ⟨i, rfl, Option.some.inj h1⟩
  have plt : ∀ (j k : Nat), ps[j]? = some k → k < ws.length := by
    intro j k hj
    have h1 : (ps.map (fun i => ws[i]?))[j]? = some ws[k]? := by rw [List.getElem?_map, hj]; rfl
    rw [hC, List.getElem?_map] at h1
    cases hw : wc[j]? with
    | none => rw [hw] at h1; cases h1
    | some q =>
      rw [hw] at h1
      exact (List.getElem?_eq_some_iff.mp (Option.some.inj h1).symm).1
  have apart : ∀ (k : Nat) (q : Nat × va_E), k ∉ ps → ws[k]? = some q → q.1 < H.size ∧ ¬ va_A wc H.size q.1 := by
    intro k q hkp hq
    have hl := (hP k q hq).lt
    refine ⟨hl, fun h => ?_⟩
    rcases h with ⟨k2, e, h⟩ | h
    · obtain ⟨j, h3, h4⟩ := at' k2 (q.1, e) h
      have hij := hD.1 k j q (q.1, e) hq h4 rfl
      subst hij
      exact hkp (List.mem_of_getElem? h3)
    · omega
  -- what lies at a place
  have what : ∀ (k : Nat) (q : Nat × va_E), (setAll ws ps w1)[k]? = some q → (∃ j : Nat, ps[j]? = some k ∧ w1[j]? = some q) ∨ (k ∉ ps ∧ ws[k]? = some q) := by
    intro k q hq
    by_cases hkp : k ∈ ps
    · left
      obtain ⟨j, hj⟩ := List.getElem?_of_mem hkp
      have hjl : j < w1.length := by rw [hlen]; exact (List.getElem?_eq_some_iff.mp hj).1
      have hw : w1[j]? = some w1[j] := List.getElem?_eq_getElem hjl
      have h2 := setAll_in ps ws w1 j k _ hn hj hw (plt j k hj)
      rw [h2] at hq
      exact ⟨j, hj, by rw [hw]; exact hq⟩
    · right
      rw [setAll_out ps ws w1 k hkp] at hq
      exact ⟨hkp, hq⟩
  refine ⟨fun k q hq => ?_, fun i j x y hx hy hxy => ?_, fun k q hq => ?_⟩
  · rcases what k q hq with ⟨j, _, hw⟩ | ⟨hkp, hw⟩
    · exact hP1 j q hw
    · obtain ⟨g1, g2⟩ := apart k q hkp hw
      exact (hP k q hw).kept (hk q.1 g1 g2)
  · rcases what i x hx with ⟨a, ha, hwa⟩ | ⟨hia, hwa⟩ <;> rcases what j y hy with ⟨b, hb, hwb⟩ | ⟨hjb, hwb⟩
    · have hab := hD1.1 a b x y hwa hwb hxy
      subst hab
      exact Option.some.inj (ha.symm.trans hb)
    · exact absurd (by rw [← hxy]; exact hD1.2 a x hwa) (apart j y hjb hwb).2
    · exact absurd (by rw [hxy]; exact hD1.2 b y hwb) (apart i x hia hwa).2
    · exact hD.1 i j x y hwa hwb hxy
  · rcases what k q hq with ⟨j, _, hw⟩ | ⟨_, hw⟩
    · exact hF q.1 (hD1.2 j q hw)
    · exact hD.2 k q hw
