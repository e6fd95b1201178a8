theorem x_CHK_ok : x_CHK := sorry
