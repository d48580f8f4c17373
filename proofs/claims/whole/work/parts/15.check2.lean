theorem ck_32 : (List.range' 32 4).all (fun k => (tb_cs.getD k []).all (ck_q k)) = true := by decide +kernel
theorem ck_36 : (List.range' 36 3).all (fun k => (tb_cs.getD k []).all (ck_q k)) = true := by decide +kernel
theorem ck_39 : (List.range' 39 5).all (fun k => (tb_cs.getD k []).all (ck_q k)) = true := by decide +kernel
theorem ck_44 : (List.range' 44 5).all (fun k => (tb_cs.getD k []).all (ck_q k)) = true := by decide +kernel
theorem ck_49 : (List.range' 49 3).all (fun k => (tb_cs.getD k []).all (ck_q k)) = true := by decide +kernel
theorem ck_52 : (List.range' 52 4).all (fun k => (tb_cs.getD k []).all (ck_q k)) = true := by decide +kernel
