theorem ck_56 : (List.range' 56 5).all (fun k => (tb_cs.getD k []).all (ck_q k)) = true := by decide +kernel
theorem ck_61 : (List.range' 61 6).all (fun k => (tb_cs.getD k []).all (ck_q k)) = true := by decide +kernel
theorem ck_67 : (List.range' 67 1).all (fun k => (tb_cs.getD k []).all (ck_q k)) = true := by decide +kernel
theorem ck_68 : (List.range' 68 1).all (fun k => (tb_cs.getD k []).all (ck_q k)) = true := by decide +kernel
theorem ck_69 : (List.range' 69 2).all (fun k => (tb_cs.getD k []).all (ck_q k)) = true := by decide +kernel
theorem ck_71 : (List.range' 71 2).all (fun k => (tb_cs.getD k []).all (ck_q k)) = true := by decide +kernel
theorem ck_73 : (List.range' 73 4).all (fun k => (tb_cs.getD k []).all (ck_q k)) = true := by decide +kernel
