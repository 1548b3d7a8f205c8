set_option maxRecDepth 100000 in
set_option maxHeartbeats 4000000 in
theorem kjK_137_340 : ((kjT_137.drop 340).take 20).all (mv_rowB kjW_137 kjCl kjKd kjP kjStn kjM_137) = true := by decide +kernel
set_option maxRecDepth 100000 in
set_option maxHeartbeats 4000000 in
theorem kjK_137_360 : ((kjT_137.drop 360).take 20).all (mv_rowB kjW_137 kjCl kjKd kjP kjStn kjM_137) = true := by decide +kernel
