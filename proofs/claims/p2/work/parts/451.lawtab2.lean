set_option maxRecDepth 100000 in
set_option maxHeartbeats 4000000 in
theorem kjKL_100 : ((kjTL.drop 100).take 25).all (mv_rowB kjWL kjCl kjKd kjP kjStn kjLaw) = true := by decide +kernel
set_option maxRecDepth 100000 in
set_option maxHeartbeats 4000000 in
theorem kjKL_125 : ((kjTL.drop 125).take 25).all (mv_rowB kjWL kjCl kjKd kjP kjStn kjLaw) = true := by decide +kernel
set_option maxRecDepth 100000 in
set_option maxHeartbeats 4000000 in
theorem kjKL_150 : ((kjTL.drop 150).take 25).all (mv_rowB kjWL kjCl kjKd kjP kjStn kjLaw) = true := by decide +kernel
set_option maxRecDepth 100000 in
set_option maxHeartbeats 4000000 in
theorem kjKL_175 : ((kjTL.drop 175).take 25).all (mv_rowB kjWL kjCl kjKd kjP kjStn kjLaw) = true := by decide +kernel
