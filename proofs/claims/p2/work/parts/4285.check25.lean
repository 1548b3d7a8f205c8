set_option maxRecDepth 100000 in
set_option maxHeartbeats 4000000 in
theorem kjK_134_120 : ((kjT_134.drop 120).take 20).all (mv_rowB kjW_134 kjCl kjKd kjP kjStn kjM_134) = true := by decide +kernel
set_option maxRecDepth 100000 in
set_option maxHeartbeats 4000000 in
theorem kjK_134_140 : ((kjT_134.drop 140).take 20).all (mv_rowB kjW_134 kjCl kjKd kjP kjStn kjM_134) = true := by decide +kernel
set_option maxRecDepth 100000 in
set_option maxHeartbeats 4000000 in
theorem kjK_134_160 : ((kjT_134.drop 160).take 20).all (mv_rowB kjW_134 kjCl kjKd kjP kjStn kjM_134) = true := by decide +kernel
