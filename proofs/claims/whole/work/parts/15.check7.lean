theorem ck_112 : (List.range' 112 2).all (fun k => (tb_cs.getD k []).all (ck_q k)) = true := by decide +kernel
theorem ck_114 : (List.range' 114 4).all (fun k => (tb_cs.getD k []).all (ck_q k)) = true := by decide +kernel
theorem ck_118 : (List.range' 118 5).all (fun k => (tb_cs.getD k []).all (ck_q k)) = true := by decide +kernel
theorem ck_123 : (List.range' 123 1).all (fun k => (tb_cs.getD k []).all (ck_q k)) = true := by decide +kernel
