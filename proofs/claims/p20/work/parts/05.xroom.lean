/-- all slots of a heap -/
def hS (H : Heap) : Nat := H.foldl (fun n c => n + c.slots.size) 0
section RoomRows
variable {p : Program} {l : Launch} {e : Env} {R : Room} {s : State} {m : MethodId} {args : Array Value} {below : List Frame} {meth : Method} {c : Code} {H : Heap} {locs : List Loc} {cells slots : Nat} {Q : State → Prop} {g : JFrame}
theorem st_true {T : State} (X : Stand p l e R s m args below meth c T locs cells slots) : s.slotsUsed = hS s.heap ∧ T.slotsUsed = hS T.heap := by
  have h2 := X.book
  have h3 : s.slotsTrue = true := by
    have h := X.room
    simp only [State.hasRoom, Bool.and_eq_true] at h
    exact h.2
  simp only [State.slotsTrue, beq_iff_eq] at h2 h3
  exact ⟨h3, h2⟩
/-- the counters bound the heap -/
theorem W_msr (kk : H.size ≤ s.heap.size + cells → hS H ≤ hS s.heap + slots → W p l e R s m args below meth c H locs cells slots Q g) : W p l e R s m args below meth c H locs cells slots Q g := fun T hT X => by
  obtain ⟨h1, h2⟩ := st_true X
  have h3 := X.used
  have h4 := X.heapSize
  rw [h1, h2, hT] at h3
  rw [hT] at h4
  exact kk h4 h3 T hT X
/-- what bounds the heap may be taken for the counters -/
theorem W_tight {k n : Nat} (h1 : H.size ≤ s.heap.size + k) (h2 : hS H ≤ hS s.heap + n) (kk : W p l e R s m args below meth c H locs k n Q g) : W p l e R s m args below meth c H locs cells slots Q g := fun T hT X => by
  obtain ⟨e1, e2⟩ := st_true X
  obtain ⟨a1, a2, a3, a4, a5, a6⟩ := X.same
  refine kk T hT { X with same := ⟨a1, a2, ?_, a4, ?_, a6⟩ }
  · show T.heap.size ≤ s.heap.size + k
    rw [hT]; exact h1
  · have a4' : T.slotsUsed = s.slotsUsed + (((T.setVm s.vm).heap.toList.drop s.heap.size).map (·.slots.size)).sum := a4
    rw [e1, e2, hT] at a4'
    omega
end RoomRows
