/-! ALL CODE -/
theorem ckP_app2 {y k n k2 : Nat} {a b : List (Option RI)} (hl : a.length = n) (hk : k + n = k2) (h1 : ckP y k a = true) (h2 : ckP y k2 b = true) : ckP y k (a ++ b) = true := by
  subst hl
  subst hk
  exact ckP_app a b k h1 h2
theorem ln_0 : tb_190_0.length = 128 := by decide +kernel
theorem ln_1 : tb_190_1.length = 128 := by decide +kernel
theorem ln_2 : tb_190_2.length = 128 := by decide +kernel
theorem ln_3 : tb_190_3.length = 128 := by decide +kernel
theorem ln_4 : tb_190_4.length = 128 := by decide +kernel
theorem ln_5 : tb_190_5.length = 128 := by decide +kernel
theorem ln_6 : tb_190_6.length = 128 := by decide +kernel
theorem ln_7 : tb_190_7.length = 128 := by decide +kernel
theorem ln_8 : tb_190_8.length = 128 := by decide +kernel
theorem ln_9 : tb_190_9.length = 128 := by decide +kernel
theorem ln_10 : tb_190_10.length = 128 := by decide +kernel
theorem dkR_11 : ckP 190 1408 tb_190_11 = true := dkL_11
theorem dkR_10 : ckP 190 1280 (tb_190_10 ++ (tb_190_11)) = true := ckP_app2 ln_10 rfl dkL_10 dkR_11
theorem dkR_9 : ckP 190 1152 (tb_190_9 ++ (tb_190_10 ++ (tb_190_11))) = true := ckP_app2 ln_9 rfl dkL_9 dkR_10
theorem dkR_8 : ckP 190 1024 (tb_190_8 ++ (tb_190_9 ++ (tb_190_10 ++ (tb_190_11)))) = true := ckP_app2 ln_8 rfl dkL_8 dkR_9
theorem dkR_7 : ckP 190 896 (tb_190_7 ++ (tb_190_8 ++ (tb_190_9 ++ (tb_190_10 ++ (tb_190_11))))) = true := ckP_app2 ln_7 rfl dkL_7 dkR_8
theorem dkR_6 : ckP 190 768 (tb_190_6 ++ (tb_190_7 ++ (tb_190_8 ++ (tb_190_9 ++ (tb_190_10 ++ (tb_190_11)))))) = true := ckP_app2 ln_6 rfl dkL_6 dkR_7
theorem dkR_5 : ckP 190 640 (tb_190_5 ++ (tb_190_6 ++ (tb_190_7 ++ (tb_190_8 ++ (tb_190_9 ++ (tb_190_10 ++ (tb_190_11))))))) = true := ckP_app2 ln_5 rfl dkL_5 dkR_6
theorem dkR_4 : ckP 190 512 (tb_190_4 ++ (tb_190_5 ++ (tb_190_6 ++ (tb_190_7 ++ (tb_190_8 ++ (tb_190_9 ++ (tb_190_10 ++ (tb_190_11)))))))) = true := ckP_app2 ln_4 rfl dkL_4 dkR_5
theorem dkR_3 : ckP 190 384 (tb_190_3 ++ (tb_190_4 ++ (tb_190_5 ++ (tb_190_6 ++ (tb_190_7 ++ (tb_190_8 ++ (tb_190_9 ++ (tb_190_10 ++ (tb_190_11))))))))) = true := ckP_app2 ln_3 rfl dkL_3 dkR_4
theorem dkR_2 : ckP 190 256 (tb_190_2 ++ (tb_190_3 ++ (tb_190_4 ++ (tb_190_5 ++ (tb_190_6 ++ (tb_190_7 ++ (tb_190_8 ++ (tb_190_9 ++ (tb_190_10 ++ (tb_190_11)))))))))) = true := ckP_app2 ln_2 rfl dkL_2 dkR_3
theorem dkR_1 : ckP 190 128 (tb_190_1 ++ (tb_190_2 ++ (tb_190_3 ++ (tb_190_4 ++ (tb_190_5 ++ (tb_190_6 ++ (tb_190_7 ++ (tb_190_8 ++ (tb_190_9 ++ (tb_190_10 ++ (tb_190_11))))))))))) = true := ckP_app2 ln_1 rfl dkL_1 dkR_2
theorem dkR_0 : ckP 190 0 (tb_190_0 ++ (tb_190_1 ++ (tb_190_2 ++ (tb_190_3 ++ (tb_190_4 ++ (tb_190_5 ++ (tb_190_6 ++ (tb_190_7 ++ (tb_190_8 ++ (tb_190_9 ++ (tb_190_10 ++ (tb_190_11)))))))))))) = true := ckP_app2 ln_0 rfl dkL_0 dkR_1
theorem dk_190 : dkP 190 := dkR_0
theorem dkA_19 : ∀ a, a < 191 → dkP a := (lt_s dkA_18 dk_190)
theorem allT_len : allT.length = 191 := by decide +kernel
theorem smI_ok {y pc : Nat} {r : RI} (h : smI y pc = some r) : decode (mCd y) pc = .ok (r.1, r.2.1 - pc) ∧ okR y pc r = true := by
  by_cases hy : y < 191
  · have h1 := ckP_e (allT.getD y []) 0 pc r (dkA_19 y hy) h
    simpa using h1
  · unfold smI at h
    rw [List.getD_eq_getElem?_getD (l := allT), List.getElem?_eq_none (by rw [allT_len]; exact Nat.not_lt.mp hy)] at h
    simp at h
