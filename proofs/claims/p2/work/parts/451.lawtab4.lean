set_option maxRecDepth 100000 in
set_option maxHeartbeats 4000000 in
theorem kjKL_300 : (kjTL.drop 300).all (mv_rowB kjWL kjCl kjKd kjP kjStn kjLaw) = true := by decide +kernel
set_option maxRecDepth 100000 in
set_option maxHeartbeats 4000000 in
theorem kjLaw_all : kjTL.all (mv_rowB kjWL kjCl kjKd kjP kjStn kjLaw) = true := (mv_all_split (l := kjTL) 25 kjKL_0 (mv_all_split (l := (kjTL.drop 25)) 25 kjKL_25 (show ((kjTL.drop 25).drop 25).all _ = true by rw [List.drop_drop]; exact (mv_all_split (l := (kjTL.drop 50)) 25 kjKL_50 (show ((kjTL.drop 50).drop 25).all _ = true by rw [List.drop_drop]; exact (mv_all_split (l := (kjTL.drop 75)) 25 kjKL_75 (show ((kjTL.drop 75).drop 25).all _ = true by rw [List.drop_drop]; exact (mv_all_split (l := (kjTL.drop 100)) 25 kjKL_100 (show ((kjTL.drop 100).drop 25).all _ = true by rw [List.drop_drop]; exact (mv_all_split (l := (kjTL.drop 125)) 25 kjKL_125 (show ((kjTL.drop 125).drop 25).all _ = true by rw [List.drop_drop]; exact (mv_all_split (l := (kjTL.drop 150)) 25 kjKL_150 (show ((kjTL.drop 150).drop 25).all _ = true by rw [List.drop_drop]; exact (mv_all_split (l := (kjTL.drop 175)) 25 kjKL_175 (show ((kjTL.drop 175).drop 25).all _ = true by rw [List.drop_drop]; exact (mv_all_split (l := (kjTL.drop 200)) 25 kjKL_200 (show ((kjTL.drop 200).drop 25).all _ = true by rw [List.drop_drop]; exact (mv_all_split (l := (kjTL.drop 225)) 25 kjKL_225 (show ((kjTL.drop 225).drop 25).all _ = true by rw [List.drop_drop]; exact (mv_all_split (l := (kjTL.drop 250)) 25 kjKL_250 (show ((kjTL.drop 250).drop 25).all _ = true by rw [List.drop_drop]; exact (mv_all_split (l := (kjTL.drop 275)) 25 kjKL_275 (show ((kjTL.drop 275).drop 25).all _ = true by rw [List.drop_drop]; exact kjKL_300)))))))))))))))))))))))
theorem kjLaw_ok : mv_Ro kjCl kjKd kjTs kjNw kjP kjStn kjLaw := by
  intro e he
  have h := List.all_eq_true.mp kjLaw_all e he
  unfold mv_rowB at h
  rw [Bool.and_eq_true] at h
  exact ⟨of_decide_eq_true h.1, mv_rwB_ok kjSL h.2⟩
