set_option maxRecDepth 100000 in
set_option maxHeartbeats 4000000 in
theorem hm_Bt3 : ∀ w ∈ hm_B3, w ∈ lw_tbl := fun w h => (goodIn_p hm_B3 [332, 336, 340, 346, 343, 350, 353, 371] rfl (by decide +kernel) w h).1
set_option maxRecDepth 100000 in
set_option maxHeartbeats 4000000 in
theorem hm_Bt4 : ∀ w ∈ hm_B4, w ∈ lw_tbl := fun w h => (goodIn_p hm_B4 [442, 445, 449, 454, 461, 507] rfl (by decide +kernel) w h).1
set_option maxRecDepth 100000 in
set_option maxHeartbeats 4000000 in
theorem hm_Bt5 : ∀ w ∈ hm_B5, w ∈ lw_tbl := fun w h => (goodIn_p hm_B5 [511, 410, 413, 416, 420, 562, 568, 572, 386] rfl (by decide +kernel) w h).1
