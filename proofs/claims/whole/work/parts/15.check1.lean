theorem ck_0 : (List.range' 0 5).all (fun k => (tb_cs.getD k []).all (ck_q k)) = true := by decide +kernel
theorem ck_5 : (List.range' 5 1).all (fun k => (tb_cs.getD k []).all (ck_q k)) = true := by decide +kernel
theorem ck_6 : (List.range' 6 9).all (fun k => (tb_cs.getD k []).all (ck_q k)) = true := by decide +kernel
theorem ck_15 : (List.range' 15 7).all (fun k => (tb_cs.getD k []).all (ck_q k)) = true := by decide +kernel
theorem ck_22 : (List.range' 22 6).all (fun k => (tb_cs.getD k []).all (ck_q k)) = true := by decide +kernel
theorem ck_28 : (List.range' 28 4).all (fun k => (tb_cs.getD k []).all (ck_q k)) = true := by decide +kernel
