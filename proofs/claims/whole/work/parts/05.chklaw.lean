set_option maxRecDepth 100000 in
theorem ck_211_0 : (am_c211.getD 0 []).all (fun q => am_chk 211 q.1 q.2) = true := by decide +kernel
set_option maxRecDepth 100000 in
theorem ck_211_1 : (am_c211.getD 1 []).all (fun q => am_chk 211 q.1 q.2) = true := by decide +kernel
set_option maxRecDepth 100000 in
theorem ck_211_2 : (am_c211.getD 2 []).all (fun q => am_chk 211 q.1 q.2) = true := by decide +kernel
set_option maxRecDepth 100000 in
theorem ck_211_3 : (am_c211.getD 3 []).all (fun q => am_chk 211 q.1 q.2) = true := by decide +kernel
set_option maxRecDepth 100000 in
theorem ck_211_4 : (am_c211.getD 4 []).all (fun q => am_chk 211 q.1 q.2) = true := by decide +kernel
set_option maxRecDepth 100000 in
theorem ck_211_5 : (am_c211.getD 5 []).all (fun q => am_chk 211 q.1 q.2) = true := by decide +kernel
set_option maxRecDepth 100000 in
theorem ck_211_6 : (am_c211.getD 6 []).all (fun q => am_chk 211 q.1 q.2) = true := by decide +kernel
set_option maxRecDepth 100000 in
theorem ck_211_7 : (am_c211.getD 7 []).all (fun q => am_chk 211 q.1 q.2) = true := by decide +kernel
set_option maxRecDepth 100000 in
theorem ck_211_8 : (am_c211.getD 8 []).all (fun q => am_chk 211 q.1 q.2) = true := by decide +kernel
set_option maxRecDepth 100000 in
theorem ck_211_9 : (am_c211.getD 9 []).all (fun q => am_chk 211 q.1 q.2) = true := by decide +kernel
set_option maxRecDepth 100000 in
theorem ck_211_10 : (am_c211.getD 10 []).all (fun q => am_chk 211 q.1 q.2) = true := by decide +kernel
set_option maxRecDepth 100000 in
theorem ck_211_11 : (am_c211.getD 11 []).all (fun q => am_chk 211 q.1 q.2) = true := by decide +kernel
set_option maxRecDepth 100000 in
theorem ck_211_12 : (am_c211.getD 12 []).all (fun q => am_chk 211 q.1 q.2) = true := by decide +kernel
set_option maxRecDepth 100000 in
theorem ck_211_13 : (am_c211.getD 13 []).all (fun q => am_chk 211 q.1 q.2) = true := by decide +kernel
set_option maxRecDepth 100000 in
theorem ck_211_14 : (am_c211.getD 14 []).all (fun q => am_chk 211 q.1 q.2) = true := by decide +kernel
set_option maxRecDepth 100000 in
theorem ck_211_15 : (am_c211.getD 15 []).all (fun q => am_chk 211 q.1 q.2) = true := by decide +kernel
set_option maxRecDepth 100000 in
theorem ck_211_16 : (am_c211.getD 16 []).all (fun q => am_chk 211 q.1 q.2) = true := by decide +kernel
set_option maxRecDepth 100000 in
theorem ck_211_17 : (am_c211.getD 17 []).all (fun q => am_chk 211 q.1 q.2) = true := by decide +kernel
set_option maxRecDepth 100000 in
theorem ck_211_18 : (am_c211.getD 18 []).all (fun q => am_chk 211 q.1 q.2) = true := by decide +kernel
set_option maxRecDepth 100000 in
theorem ck_211_19 : (am_c211.getD 19 []).all (fun q => am_chk 211 q.1 q.2) = true := by decide +kernel
set_option maxRecDepth 100000 in
theorem ck_211_20 : (am_c211.getD 20 []).all (fun q => am_chk 211 q.1 q.2) = true := by decide +kernel
set_option maxRecDepth 100000 in
theorem ck_211_21 : (am_c211.getD 21 []).all (fun q => am_chk 211 q.1 q.2) = true := by decide +kernel
