set_option maxRecDepth 100000 in
set_option maxHeartbeats 4000000 in
theorem hm_Bt0 : ∀ w ∈ hm_B0, w ∈ lw_tbl := fun w h => (goodIn_p hm_B0 [377, 64, 67, 72] rfl (by decide +kernel) w h).1
set_option maxRecDepth 100000 in
set_option maxHeartbeats 4000000 in
theorem hm_Bt1 : ∀ w ∈ hm_B1, w ∈ lw_tbl := fun w h => (goodIn_p hm_B1 [75, 78, 99, 120, 143, 886, 882] rfl (by decide +kernel) w h).1
set_option maxRecDepth 100000 in
set_option maxHeartbeats 4000000 in
theorem hm_Bt2 : ∀ w ∈ hm_B2, w ∈ lw_tbl := fun w h => (goodIn_p hm_B2 [189, 192, 263, 269, 290, 328] rfl (by decide +kernel) w h).1
