set_option maxRecDepth 100000 in
set_option maxHeartbeats 4000000 in
theorem kjK_135_80 : ((kjT_135.drop 80).take 40).all (mv_rowB kjW_135 kjCl kjKd kjP kjStn kjM_135) = true := by decide +kernel
set_option maxRecDepth 100000 in
set_option maxHeartbeats 4000000 in
theorem kjK_135_120 : ((kjT_135.drop 120).take 40).all (mv_rowB kjW_135 kjCl kjKd kjP kjStn kjM_135) = true := by decide +kernel
