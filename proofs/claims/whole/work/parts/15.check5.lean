theorem ck_96 : (List.range' 96 2).all (fun k => (tb_cs.getD k []).all (ck_q k)) = true := by decide +kernel
theorem ck_98 : (List.range' 98 1).all (fun k => (tb_cs.getD k []).all (ck_q k)) = true := by decide +kernel
theorem ck_99 : (List.range' 99 1).all (fun k => (tb_cs.getD k []).all (ck_q k)) = true := by decide +kernel
theorem ck_100 : (List.range' 100 1).all (fun k => (tb_cs.getD k []).all (ck_q k)) = true := by decide +kernel
theorem ck_101 : (List.range' 101 4).all (fun k => (tb_cs.getD k []).all (ck_q k)) = true := by decide +kernel
