set_option maxRecDepth 100000 in
set_option maxHeartbeats 4000000 in
theorem hm_Bt6 : ∀ w ∈ hm_B6, w ∈ lw_tbl := fun w h => (goodIn_p hm_B6 [390, 425, 428, 434, 438, 751, 755, 759, 763] rfl (by decide +kernel) w h).1
set_option maxRecDepth 100000 in
set_option maxHeartbeats 4000000 in
theorem hm_Bt7 : ∀ w ∈ hm_B7, w ∈ lw_tbl := fun w h => (goodIn_p hm_B7 [674, 678, 594, 670, 683, 687, 691, 537] rfl (by decide +kernel) w h).1
set_option maxRecDepth 100000 in
set_option maxHeartbeats 4000000 in
theorem hm_Bt8 : ∀ w ∈ hm_B8, w ∈ lw_tbl := fun w h => (goodIn_p hm_B8 [544, 823, 579, 827, 599, 603, 831, 607] rfl (by decide +kernel) w h).1
