-- nothing is wanting
theorem wanting_all : ∀ n, wanting n := fun n h hj hn => ⟨fun x => op_sum hj hn, fun x => op_receive hj hn, fun x => op_pass hj hn⟩
theorem i_vc : Claimed_1_1 ∧ Claimed_1_2 := i_vc_open wanting_all
