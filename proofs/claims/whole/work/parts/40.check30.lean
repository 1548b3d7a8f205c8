set_option maxRecDepth 100000 in
set_option maxHeartbeats 4000000 in
theorem kjK_138_280 : ((kjT_138.drop 280).take 40).all (mv_rowB kjW_138 kjCl kjKd kjP kjStn kjM_138) = true := by decide +kernel
