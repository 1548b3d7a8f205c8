set_option maxRecDepth 100000 in
set_option maxHeartbeats 4000000 in
theorem kjK_137_260 : ((kjT_137.drop 260).take 20).all (mv_rowB kjW_137 kjCl kjKd kjP kjStn kjM_137) = true := by decide +kernel
set_option maxRecDepth 100000 in
set_option maxHeartbeats 4000000 in
theorem kjK_137_280 : ((kjT_137.drop 280).take 20).all (mv_rowB kjW_137 kjCl kjKd kjP kjStn kjM_137) = true := by decide +kernel
