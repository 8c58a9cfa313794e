section VFB
set_option maxRecDepth 100000 in
theorem kc_frameF_16 : vi_ptc vK vSG 1 4 0 vFT_X9 fp_frameF vCT_X9 vC2_X9 [] mt_frameF q_frameF.2.2.1 cX9_frame [31, 86] 400 pn_frameF_16 pt_frameF_16 = true := by decide +kernel
set_option maxRecDepth 100000 in
theorem kc_frameF_15 : vi_ptc vK vSG 1 4 0 vFT_X9 fp_frameF vCT_X9 vC2_X9 [] mt_frameF q_frameF.2.2.1 cX9_frame [31, 86] 400 pn_frameF_15 pt_frameF_15 = true := by decide +kernel
set_option maxRecDepth 100000 in
theorem kc_frameF_14 : vi_ptc vK vSG 1 4 0 vFT_X9 fp_frameF vCT_X9 vC2_X9 [] mt_frameF q_frameF.2.2.1 cX9_frame [31, 86] 400 pn_frameF_14 pt_frameF_14 = true := by decide +kernel
set_option maxRecDepth 100000 in
theorem kc_frameF_13 : vi_ptc vK vSG 1 4 0 vFT_X9 fp_frameF vCT_X9 vC2_X9 [] mt_frameF q_frameF.2.2.1 cX9_frame [31, 86] 400 pn_frameF_13 pt_frameF_13 = true := by decide +kernel
set_option maxRecDepth 100000 in
theorem kc_frameF_12 : vi_ptc vK vSG 1 4 0 vFT_X9 fp_frameF vCT_X9 vC2_X9 [] mt_frameF q_frameF.2.2.1 cX9_frame [31, 86] 400 pn_frameF_12 pt_frameF_12 = true := by decide +kernel
set_option maxRecDepth 100000 in
theorem kc_frameF_11 : vi_ptc vK vSG 1 4 0 vFT_X9 fp_frameF vCT_X9 vC2_X9 [] mt_frameF q_frameF.2.2.1 cX9_frame [31, 86] 400 pn_frameF_11 pt_frameF_11 = true := by decide +kernel
set_option maxRecDepth 100000 in
theorem kc_frameF_10 : vi_ptc vK vSG 1 4 0 vFT_X9 fp_frameF vCT_X9 vC2_X9 [] mt_frameF q_frameF.2.2.1 cX9_frame [31, 86] 400 pn_frameF_10 pt_frameF_10 = true := by decide +kernel
set_option maxRecDepth 100000 in
theorem kc_frameF_9 : vi_ptc vK vSG 1 4 0 vFT_X9 fp_frameF vCT_X9 vC2_X9 [] mt_frameF q_frameF.2.2.1 cX9_frame [31, 86] 400 pn_frameF_9 pt_frameF_9 = true := by decide +kernel
set_option maxRecDepth 100000 in
theorem kc_frameF_8 : vi_ptc vK vSG 1 4 0 vFT_X9 fp_frameF vCT_X9 vC2_X9 [] mt_frameF q_frameF.2.2.1 cX9_frame [31, 86] 400 pn_frameF_8 pt_frameF_8 = true := by decide +kernel
set_option maxRecDepth 100000 in
theorem kc_frameF_7 : vi_ptc vK vSG 1 4 0 vFT_X9 fp_frameF vCT_X9 vC2_X9 [] mt_frameF q_frameF.2.2.1 cX9_frame [31, 86] 400 pn_frameF_7 pt_frameF_7 = true := by decide +kernel
set_option maxRecDepth 100000 in
theorem kc_frameF_6 : vi_ptc vK vSG 1 4 0 vFT_X9 fp_frameF vCT_X9 vC2_X9 [] mt_frameF q_frameF.2.2.1 cX9_frame [31, 86] 400 pn_frameF_6 pt_frameF_6 = true := by decide +kernel
set_option maxRecDepth 100000 in
theorem kc_frameF_5 : vi_ptc vK vSG 1 4 0 vFT_X9 fp_frameF vCT_X9 vC2_X9 [] mt_frameF q_frameF.2.2.1 cX9_frame [31, 86] 400 pn_frameF_5 pt_frameF_5 = true := by decide +kernel
end VFB
