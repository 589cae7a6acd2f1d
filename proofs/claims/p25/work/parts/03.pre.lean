/-! what the tables say of nest mates and of arrays of references, and that it stays; empty worlds; switches -/
def nwX (U : State) : Prop := va_Nw (.methodLinkNest RX6 21 yX4_init "CrateHelpers") U ∧ va_Nw (.methodLinkNest RX6 47 yX0_init "CrateHelpers") U ∧ va_Nw (.methodLinkNest RX1 46 yX2_init "CrateHelpers") U ∧ va_Nw (.methodLinkNest RX5 30 yX0_init "CrateHelpers") U ∧ va_AO RX1 U ∧ va_AO RX2 U ∧ va_AOA .int U
theorem nwX_moved {s U : State} (hW : s.WarmedH U.vm) (h : nwX s) : nwX U := ⟨va_Nw.warmM hW h.1, va_Nw.warmM hW h.2.1, va_Nw.warmM hW h.2.2.1, va_Nw.warmM hW h.2.2.2.1, va_AO.moved hW.alike h.2.2.2.2.1, va_AO.moved hW.alike h.2.2.2.2.2.1, zg_moved hW.alike h.2.2.2.2.2.2⟩
theorem nwX_same {u U : State} (e : u.vm = U.vm) (h : nwX u) : nwX U := ⟨va_Nw.same rfl e h.1, va_Nw.same rfl e h.2.1, va_Nw.same rfl e h.2.2.1, va_Nw.same rfl e h.2.2.2.1, va_AO.moved (by rw [e]; exact Vm.Alike.refl U.vm) h.2.2.2.2.1, va_AO.moved (by rw [e]; exact Vm.Alike.refl U.vm) h.2.2.2.2.2.1, zg_moved (by rw [e]; exact Vm.Alike.refl U.vm) h.2.2.2.2.2.2⟩
theorem va_Pnil (D : va_G) (cl : List vw_C) (H : Heap) : va_P D cl [] H := fun k q h => by simp at h
theorem va_Dnil (A : Nat → Prop) : va_D A [] := ⟨fun i j p q h => by simp at h, fun k q h => by simp at h⟩
theorem sw_k (x k : Int32) : x = k ∨ x.toInt ≠ k.toInt := by
  by_cases h : x = k
  · exact Or.inl h
  · exact Or.inr (fun e => h (Int32.toInt_inj.mp e))
theorem sw_2 (x : Int32) : x = 0 ∨ x = 1 ∨ x = 2 ∨ (x.toInt < 0 ∨ 2 < x.toInt) := by
  rcases sw_k x 0 with h | h0
  · exact Or.inl h
  rcases sw_k x 1 with h | h1
  · exact Or.inr (Or.inl h)
  rcases sw_k x 2 with h | h2
  · exact Or.inr (Or.inr (Or.inl h))
  have e0 : (0 : Int32).toInt = 0 := by decide
  have e1 : (1 : Int32).toInt = 1 := by decide
  have e2 : (2 : Int32).toInt = 2 := by decide
  refine Or.inr (Or.inr (Or.inr ?_))
  omega
theorem sw_7 (x : Int32) : x = 0 ∨ x = 1 ∨ x = 2 ∨ x = 3 ∨ x = 4 ∨ x = 5 ∨ x = 6 ∨ x = 7 ∨ (x.toInt < 0 ∨ 7 < x.toInt) := by
  rcases sw_k x 0 with h | h0
  · exact Or.inl h
  rcases sw_k x 1 with h | h1
  · exact Or.inr (Or.inl h)
  rcases sw_k x 2 with h | h2
  · exact Or.inr (Or.inr (Or.inl h))
  rcases sw_k x 3 with h | h3
  · exact Or.inr (Or.inr (Or.inr (Or.inl h)))
  rcases sw_k x 4 with h | h4
  · exact Or.inr (Or.inr (Or.inr (Or.inr (Or.inl h))))
  rcases sw_k x 5 with h | h5
  · exact Or.inr (Or.inr (Or.inr (Or.inr (Or.inr (Or.inl h)))))
  rcases sw_k x 6 with h | h6
  · exact Or.inr (Or.inr (Or.inr (Or.inr (Or.inr (Or.inr (Or.inl h))))))
  rcases sw_k x 7 with h | h7
  · exact Or.inr (Or.inr (Or.inr (Or.inr (Or.inr (Or.inr (Or.inr (Or.inl h)))))))
  have e0 : (0 : Int32).toInt = 0 := by decide
  have e1 : (1 : Int32).toInt = 1 := by decide
  have e2 : (2 : Int32).toInt = 2 := by decide
  have e3 : (3 : Int32).toInt = 3 := by decide
  have e4 : (4 : Int32).toInt = 4 := by decide
  have e5 : (5 : Int32).toInt = 5 := by decide
  have e6 : (6 : Int32).toInt = 6 := by decide
  have e7 : (7 : Int32).toInt = 7 := by decide
  refine Or.inr (Or.inr (Or.inr (Or.inr (Or.inr (Or.inr (Or.inr (Or.inr ?_)))))))
  omega
