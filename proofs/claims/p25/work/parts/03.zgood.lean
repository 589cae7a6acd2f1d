/-! words among words, by runs of places -/
theorem goodIn_g {big : List Cond} (ws : List Cond) (sg : List (Nat × Nat)) (hp : ws = sg.flatMap (fun q => (big.drop q.1).take q.2)) (h : ws.all goodWord = true) : GoodIn big ws := by
  intro w hw
  refine ⟨?_, good_of_word (List.all_eq_true.mp h w hw)⟩
  rw [hp] at hw
  obtain ⟨q, -, hq⟩ := List.mem_flatMap.mp hw
  exact List.mem_of_mem_drop (List.mem_of_mem_take hq)
theorem in_seg {big : List Cond} (ws : List Cond) (sg : List (Nat × Nat)) (hp : ws = sg.flatMap (fun q => (big.drop q.1).take q.2)) : ∀ w ∈ ws, w ∈ big := by
  intro w hw
  rw [hp] at hw
  obtain ⟨q, -, hq⟩ := List.mem_flatMap.mp hw
  exact List.mem_of_mem_drop (List.mem_of_mem_take hq)
theorem goodIn_e {big big' ws : List Cond} (e : big = big') (h : GoodIn big' ws) : GoodIn big ws := e ▸ h
