theorem EdL_rng {p : Nat → Int} {m : Nat} {o a c : Int} (h : PtOK p m) (he : EdL (trk p m) o a c) : (0 ≤ a ∧ a < 144) ∧ 0 ≤ c ∧ c < 144 := by
  obtain ⟨j, hj, h1⟩ := he
  have hr := trk_rng h
  rcases h1 with ⟨g1, g2⟩ | ⟨_, g1, g2⟩
  · exact ⟨hr a (List.mem_of_getElem? g1), hr c (List.mem_of_getElem? g2)⟩
  · exact ⟨hr a (List.mem_of_getElem? g1), hr c (List.mem_of_getElem? g2)⟩
