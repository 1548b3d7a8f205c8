set_option maxRecDepth 100000 in
set_option maxHeartbeats 4000000 in
theorem kjK_137_300 : ((kjT_137.drop 300).take 20).all (mv_rowB kjW_137 kjCl kjKd kjP kjStn kjM_137) = true := by decide +kernel
set_option maxRecDepth 100000 in
set_option maxHeartbeats 4000000 in
theorem kjK_137_320 : ((kjT_137.drop 320).take 20).all (mv_rowB kjW_137 kjCl kjKd kjP kjStn kjM_137) = true := by decide +kernel
