set_option maxRecDepth 100000 in
set_option maxHeartbeats 4000000 in
theorem kjK_138_80 : ((kjT_138.drop 80).take 40).all (mv_rowB kjW_138 kjCl kjKd kjP kjStn kjM_138) = true := by decide +kernel
set_option maxRecDepth 100000 in
set_option maxHeartbeats 4000000 in
theorem kjK_138_120 : ((kjT_138.drop 120).take 40).all (mv_rowB kjW_138 kjCl kjKd kjP kjStn kjM_138) = true := by decide +kernel
