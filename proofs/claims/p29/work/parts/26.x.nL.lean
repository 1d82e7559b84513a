set_option maxRecDepth 20000 in
theorem wsL_inX5 : ∀ w ∈ wsX50, w ∈ lw_tbl := fun w h => (goodIn_p wsX50 [] (by decide +kernel) (by decide +kernel) w h).1
set_option maxRecDepth 20000 in
theorem wsL_inX0 : ∀ w ∈ wsX00, w ∈ lw_tbl := fun w h => (goodIn_p wsX00 [] (by decide +kernel) (by decide +kernel) w h).1
set_option maxRecDepth 20000 in
theorem wsL_inX3 : ∀ w ∈ wsX30, w ∈ lw_tbl := fun w h => (goodIn_p wsX30 [] (by decide +kernel) (by decide +kernel) w h).1
set_option maxRecDepth 20000 in
theorem wsL_inX2 : ∀ w ∈ wsX20, w ∈ lw_tbl := fun w h => (goodIn_p wsX20 [] (by decide +kernel) (by decide +kernel) w h).1
set_option maxRecDepth 20000 in
theorem wsL_inX4 : ∀ w ∈ wsX40, w ∈ lw_tbl := fun w h => (goodIn_p wsX40 [] (by decide +kernel) (by decide +kernel) w h).1
set_option maxRecDepth 20000 in
theorem wsL_inX1 : ∀ w ∈ wsX10, w ∈ lw_tbl := fun w h => (goodIn_p wsX10 [] (by decide +kernel) (by decide +kernel) w h).1
theorem wsL_law_in : ∀ w ∈ wsL_law, w ∈ lw_tbl := by
  intro w h
  unfold wsL_law at h
  have h := List.mem_append.mp h
  rcases h with h | h
  case inr => exact absurd h List.not_mem_nil
  rcases List.mem_append.mp h with h | h
  case inr => exact wsL_inX1 w h
  rcases List.mem_append.mp h with h | h
  case inr => exact wsL_inX4 w h
  rcases List.mem_append.mp h with h | h
  case inr => exact wsL_inX2 w h
  rcases List.mem_append.mp h with h | h
  case inr => exact wsL_inX3 w h
  rcases List.mem_append.mp h with h | h
  case inr => exact wsL_inX0 w h
  rcases List.mem_append.mp h with h | h
  case inr => exact wsL_inX5 w h
  rcases List.mem_append.mp h with h | h
  · exact wsL_in1 w h
  rcases List.mem_append.mp h with h | h
  · exact wsL_in2 w h
  rcases List.mem_append.mp h with h | h
  · exact wsL_in3 w h
  rcases List.mem_append.mp h with h | h
  · exact wsL_in4 w h
  rcases List.mem_append.mp h with h | h
  · exact wsL_in5 w h
  rcases List.mem_append.mp h with h | h
  · exact wsL_in6 w h
  rcases List.mem_append.mp h with h | h
  · exact wsL_in7 w h
  rcases List.mem_append.mp h with h | h
  · exact wsL_in8 w h
  rcases List.mem_append.mp h with h | h
  · exact wsL_in9 w h
  rcases List.mem_append.mp h with h | h
  · exact wsL_in10 w h
  rcases List.mem_append.mp h with h | h
  · exact wsL_in11 w h
  rcases List.mem_append.mp h with h | h
  · exact wsL_in12 w h
  rcases List.mem_append.mp h with h | h
  · exact wsL_in13 w h
  rcases List.mem_append.mp h with h | h
  · exact wsL_in14 w h
  rcases List.mem_append.mp h with h | h
  · exact wsL_in15 w h
  rcases List.mem_append.mp h with h | h
  · exact wsL_in16 w h
  rcases List.mem_append.mp h with h | h
  · exact wsL_in17 w h
  rcases List.mem_append.mp h with h | h
  · exact wsL_in18 w h
  rcases List.mem_append.mp h with h | h
  · exact wsL_in19 w h
  rcases List.mem_append.mp h with h | h
  · exact wsL_in20 w h
  rcases List.mem_append.mp h with h | h
  · exact wsL_in21 w h
  rcases List.mem_append.mp h with h | h
  · exact wsL_in22 w h
  exact wsL_in23 w h
