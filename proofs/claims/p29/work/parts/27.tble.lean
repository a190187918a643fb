set_option maxRecDepth 100000 in
set_option maxHeartbeats 4000000 in
theorem hm_Bt12 : ∀ w ∈ hm_B12, w ∈ lw_tbl := fun w h => (goodIn_p hm_B12 [741, 847, 747, 852, 858, 768, 772, 778] rfl (by decide +kernel) w h).1
set_option maxRecDepth 100000 in
set_option maxHeartbeats 4000000 in
theorem hm_Bt13 : ∀ w ∈ hm_B13, w ∈ lw_tbl := fun w h => (goodIn_p hm_B13 [839, 835, 867, 787, 791, 782, 873, 796, 800] rfl (by decide +kernel) w h).1
set_option maxRecDepth 100000 in
set_option maxHeartbeats 4000000 in
theorem hm_Bt14 : ∀ w ∈ hm_B14, w ∈ lw_tbl := fun w h => (goodIn_p hm_B14 [805, 809, 878, 814, 819, 843, 518, 523] rfl (by decide +kernel) w h).1
