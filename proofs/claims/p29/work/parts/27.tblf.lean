set_option maxRecDepth 100000 in
set_option maxHeartbeats 4000000 in
theorem hm_Bt15 : ∀ w ∈ hm_B15, w ∈ lw_tbl := fun w h => (goodIn_p hm_B15 [527, 532] rfl (by decide +kernel) w h).1
set_option maxRecDepth 100000 in
set_option maxHeartbeats 4000000 in
theorem hm_BtT : ∀ w ∈ hm_BT, w ∈ lw_tbl := fun w h => (goodIn_p hm_BT [] rfl (by decide +kernel) w h).1
