section VFB
set_option maxRecDepth 100000 in
theorem kc_frameF_4 : vi_ptc vK vSG 1 4 0 vFT_X9 fp_frameF vCT_X9 vC2_X9 [] mt_frameF q_frameF.2.2.1 cX9_frame [31, 86] 400 pn_frameF_4 pt_frameF_4 = true := by decide +kernel
set_option maxRecDepth 100000 in
theorem kc_frameF_3 : vi_ptc vK vSG 1 4 0 vFT_X9 fp_frameF vCT_X9 vC2_X9 [] mt_frameF q_frameF.2.2.1 cX9_frame [31, 86] 400 pn_frameF_3 pt_frameF_3 = true := by decide +kernel
set_option maxRecDepth 100000 in
theorem kc_frameF_2 : vi_ptc vK vSG 1 4 0 vFT_X9 fp_frameF vCT_X9 vC2_X9 [] mt_frameF q_frameF.2.2.1 cX9_frame [31, 86] 400 pn_frameF_2 pt_frameF_2 = true := by decide +kernel
set_option maxRecDepth 100000 in
theorem kc_frameF_1 : vi_ptc vK vSG 1 4 0 vFT_X9 fp_frameF vCT_X9 vC2_X9 [] mt_frameF q_frameF.2.2.1 cX9_frame [31, 86] 400 pn_frameF_1 pt_frameF_1 = true := by decide +kernel
set_option maxRecDepth 100000 in
theorem kc_frameF_0 : vi_ptc vK vSG 1 4 0 vFT_X9 fp_frameF vCT_X9 vC2_X9 [] mt_frameF q_frameF.2.2.1 cX9_frame [31, 86] 400 pn_frameF_0 pt_frameF_0 = true := by decide +kernel
end VFB
