set_option maxRecDepth 100000 in
set_option maxHeartbeats 4000000 in
theorem kjK_137_120 : ((kjT_137.drop 120).take 20).all (mv_rowB kjW_137 kjCl kjKd kjP kjStn kjM_137) = true := by decide +kernel
set_option maxRecDepth 100000 in
set_option maxHeartbeats 4000000 in
theorem kjK_137_140 : ((kjT_137.drop 140).take 20).all (mv_rowB kjW_137 kjCl kjKd kjP kjStn kjM_137) = true := by decide +kernel
set_option maxRecDepth 100000 in
set_option maxHeartbeats 4000000 in
theorem kjK_137_160 : ((kjT_137.drop 160).take 20).all (mv_rowB kjW_137 kjCl kjKd kjP kjStn kjM_137) = true := by decide +kernel
