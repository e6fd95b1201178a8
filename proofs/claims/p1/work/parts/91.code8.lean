/-! ===== printed by gen90.py: code() ===== -/
theorem cd_1_1_8 : x_pair 21000 999 n_X11_code n_X12_code [.ref 0, .int 1, .int 1, .int 8] [.ref 69, .int 1, .int 1, .int 8] W1 = true := by decide +kernel
theorem cd_2_1_8 : x_pair 21000 999 n_X11_code n_X12_code [.ref 0, .int 2, .int 1, .int 8] [.ref 69, .int 2, .int 1, .int 8] W1 = true := by decide +kernel
theorem cd_3_1_8 : x_pair 21000 999 n_X11_code n_X12_code [.ref 0, .int 3, .int 1, .int 8] [.ref 69, .int 3, .int 1, .int 8] W1 = true := by decide +kernel
theorem cd_4_1_8 : x_pair 21000 999 n_X11_code n_X12_code [.ref 0, .int 4, .int 1, .int 8] [.ref 69, .int 4, .int 1, .int 8] W1 = true := by decide +kernel
theorem cd_1_2_8 : x_pair 21000 999 n_X11_code n_X12_code [.ref 0, .int 1, .int 2, .int 8] [.ref 69, .int 1, .int 2, .int 8] W1 = true := by decide +kernel
theorem cd_2_2_8 : x_pair 21000 999 n_X11_code n_X12_code [.ref 0, .int 2, .int 2, .int 8] [.ref 69, .int 2, .int 2, .int 8] W1 = true := by decide +kernel
theorem cd_3_2_8 : x_pair 21000 999 n_X11_code n_X12_code [.ref 0, .int 3, .int 2, .int 8] [.ref 69, .int 3, .int 2, .int 8] W1 = true := by decide +kernel
theorem cd_4_2_8 : x_pair 21000 999 n_X11_code n_X12_code [.ref 0, .int 4, .int 2, .int 8] [.ref 69, .int 4, .int 2, .int 8] W1 = true := by decide +kernel
theorem cd_1_3_8 : x_pair 21000 999 n_X11_code n_X12_code [.ref 0, .int 1, .int 3, .int 8] [.ref 69, .int 1, .int 3, .int 8] W1 = true := by decide +kernel
theorem cd_2_3_8 : x_pair 21000 999 n_X11_code n_X12_code [.ref 0, .int 2, .int 3, .int 8] [.ref 69, .int 2, .int 3, .int 8] W1 = true := by decide +kernel
theorem cd_3_3_8 : x_pair 21000 999 n_X11_code n_X12_code [.ref 0, .int 3, .int 3, .int 8] [.ref 69, .int 3, .int 3, .int 8] W1 = true := by decide +kernel
theorem cd_4_3_8 : x_pair 21000 999 n_X11_code n_X12_code [.ref 0, .int 4, .int 3, .int 8] [.ref 69, .int 4, .int 3, .int 8] W1 = true := by decide +kernel
theorem cd_1_4_8 : x_pair 21000 999 n_X11_code n_X12_code [.ref 0, .int 1, .int 4, .int 8] [.ref 69, .int 1, .int 4, .int 8] W1 = true := by decide +kernel
theorem cd_2_4_8 : x_pair 21000 999 n_X11_code n_X12_code [.ref 0, .int 2, .int 4, .int 8] [.ref 69, .int 2, .int 4, .int 8] W1 = true := by decide +kernel
theorem cd_3_4_8 : x_pair 21000 999 n_X11_code n_X12_code [.ref 0, .int 3, .int 4, .int 8] [.ref 69, .int 3, .int 4, .int 8] W1 = true := by decide +kernel
theorem cd_4_4_8 : x_pair 21000 999 n_X11_code n_X12_code [.ref 0, .int 4, .int 4, .int 8] [.ref 69, .int 4, .int 4, .int 8] W1 = true := by decide +kernel
