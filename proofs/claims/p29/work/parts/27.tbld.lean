set_option maxRecDepth 100000 in
set_option maxHeartbeats 4000000 in
theorem hm_Bt9 : ∀ w ∈ hm_B9, w ∈ lw_tbl := fun w h => (goodIn_p hm_B9 [611, 615, 619, 623, 627, 634, 638, 642, 646] rfl (by decide +kernel) w h).1
set_option maxRecDepth 100000 in
set_option maxHeartbeats 4000000 in
theorem hm_Bt10 : ∀ w ∈ hm_B10, w ∈ lw_tbl := fun w h => (goodIn_p hm_B10 [650, 576, 584, 590, 654, 658, 662, 666, 695] rfl (by decide +kernel) w h).1
set_option maxRecDepth 100000 in
set_option maxHeartbeats 4000000 in
theorem hm_Bt11 : ∀ w ∈ hm_B11, w ∈ lw_tbl := fun w h => (goodIn_p hm_B11 [700, 704, 708, 711, 718, 722, 727, 731, 736] rfl (by decide +kernel) w h).1
