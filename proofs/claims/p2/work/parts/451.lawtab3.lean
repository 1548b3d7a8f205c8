set_option maxRecDepth 100000 in
set_option maxHeartbeats 4000000 in
theorem kjKL_200 : ((kjTL.drop 200).take 25).all (mv_rowB kjWL kjCl kjKd kjP kjStn kjLaw) = true := by decide +kernel
set_option maxRecDepth 100000 in
set_option maxHeartbeats 4000000 in
theorem kjKL_225 : ((kjTL.drop 225).take 25).all (mv_rowB kjWL kjCl kjKd kjP kjStn kjLaw) = true := by decide +kernel
set_option maxRecDepth 100000 in
set_option maxHeartbeats 4000000 in
theorem kjKL_250 : ((kjTL.drop 250).take 25).all (mv_rowB kjWL kjCl kjKd kjP kjStn kjLaw) = true := by decide +kernel
set_option maxRecDepth 100000 in
set_option maxHeartbeats 4000000 in
theorem kjKL_275 : ((kjTL.drop 275).take 25).all (mv_rowB kjWL kjCl kjKd kjP kjStn kjLaw) = true := by decide +kernel
