theorem ck_77 : (List.range' 77 4).all (fun k => (tb_cs.getD k []).all (ck_q k)) = true := by decide +kernel
theorem ck_81 : (List.range' 81 2).all (fun k => (tb_cs.getD k []).all (ck_q k)) = true := by decide +kernel
theorem ck_83 : (List.range' 83 3).all (fun k => (tb_cs.getD k []).all (ck_q k)) = true := by decide +kernel
theorem ck_86 : (List.range' 86 7).all (fun k => (tb_cs.getD k []).all (ck_q k)) = true := by decide +kernel
theorem ck_93 : (List.range' 93 2).all (fun k => (tb_cs.getD k []).all (ck_q k)) = true := by decide +kernel
theorem ck_95 : (List.range' 95 1).all (fun k => (tb_cs.getD k []).all (ck_q k)) = true := by decide +kernel
