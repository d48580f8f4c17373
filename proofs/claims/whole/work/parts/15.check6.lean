theorem ck_105 : (List.range' 105 1).all (fun k => (tb_cs.getD k []).all (ck_q k)) = true := by decide +kernel
theorem ck_106 : (List.range' 106 3).all (fun k => (tb_cs.getD k []).all (ck_q k)) = true := by decide +kernel
theorem ck_109 : (List.range' 109 1).all (fun k => (tb_cs.getD k []).all (ck_q k)) = true := by decide +kernel
theorem ck_110 : (List.range' 110 1).all (fun k => (tb_cs.getD k []).all (ck_q k)) = true := by decide +kernel
theorem ck_111 : (List.range' 111 1).all (fun k => (tb_cs.getD k []).all (ck_q k)) = true := by decide +kernel
