section VFB
set_option maxRecDepth 100000 in
theorem kc_frameF_28 : vi_ptc vK vSG 1 4 0 vFT_X9 fp_frameF vCT_X9 vC2_X9 [] mt_frameF q_frameF.2.2.1 cX9_frame [31, 86] 400 pn_frameF_28 pt_frameF_28 = true := by decide +kernel
set_option maxRecDepth 100000 in
theorem kc_frameF_27 : vi_ptc vK vSG 1 4 0 vFT_X9 fp_frameF vCT_X9 vC2_X9 [] mt_frameF q_frameF.2.2.1 cX9_frame [31, 86] 400 pn_frameF_27 pt_frameF_27 = true := by decide +kernel
set_option maxRecDepth 100000 in
theorem kc_frameF_26 : vi_ptc vK vSG 1 4 0 vFT_X9 fp_frameF vCT_X9 vC2_X9 [] mt_frameF q_frameF.2.2.1 cX9_frame [31, 86] 400 pn_frameF_26 pt_frameF_26 = true := by decide +kernel
set_option maxRecDepth 100000 in
theorem kc_frameF_25 : vi_ptc vK vSG 1 4 0 vFT_X9 fp_frameF vCT_X9 vC2_X9 [] mt_frameF q_frameF.2.2.1 cX9_frame [31, 86] 400 pn_frameF_25 pt_frameF_25 = true := by decide +kernel
set_option maxRecDepth 100000 in
theorem kc_frameF_24 : vi_ptc vK vSG 1 4 0 vFT_X9 fp_frameF vCT_X9 vC2_X9 [] mt_frameF q_frameF.2.2.1 cX9_frame [31, 86] 400 pn_frameF_24 pt_frameF_24 = true := by decide +kernel
set_option maxRecDepth 100000 in
theorem kc_frameF_23 : vi_ptc vK vSG 1 4 0 vFT_X9 fp_frameF vCT_X9 vC2_X9 [] mt_frameF q_frameF.2.2.1 cX9_frame [31, 86] 400 pn_frameF_23 pt_frameF_23 = true := by decide +kernel
set_option maxRecDepth 100000 in
theorem kc_frameF_22 : vi_ptc vK vSG 1 4 0 vFT_X9 fp_frameF vCT_X9 vC2_X9 [] mt_frameF q_frameF.2.2.1 cX9_frame [31, 86] 400 pn_frameF_22 pt_frameF_22 = true := by decide +kernel
set_option maxRecDepth 100000 in
theorem kc_frameF_21 : vi_ptc vK vSG 1 4 0 vFT_X9 fp_frameF vCT_X9 vC2_X9 [] mt_frameF q_frameF.2.2.1 cX9_frame [31, 86] 400 pn_frameF_21 pt_frameF_21 = true := by decide +kernel
set_option maxRecDepth 100000 in
theorem kc_frameF_20 : vi_ptc vK vSG 1 4 0 vFT_X9 fp_frameF vCT_X9 vC2_X9 [] mt_frameF q_frameF.2.2.1 cX9_frame [31, 86] 400 pn_frameF_20 pt_frameF_20 = true := by decide +kernel
set_option maxRecDepth 100000 in
theorem kc_frameF_19 : vi_ptc vK vSG 1 4 0 vFT_X9 fp_frameF vCT_X9 vC2_X9 [] mt_frameF q_frameF.2.2.1 cX9_frame [31, 86] 400 pn_frameF_19 pt_frameF_19 = true := by decide +kernel
set_option maxRecDepth 100000 in
theorem kc_frameF_18 : vi_ptc vK vSG 1 4 0 vFT_X9 fp_frameF vCT_X9 vC2_X9 [] mt_frameF q_frameF.2.2.1 cX9_frame [31, 86] 400 pn_frameF_18 pt_frameF_18 = true := by decide +kernel
set_option maxRecDepth 100000 in
theorem kc_frameF_17 : vi_ptc vK vSG 1 4 0 vFT_X9 fp_frameF vCT_X9 vC2_X9 [] mt_frameF q_frameF.2.2.1 cX9_frame [31, 86] 400 pn_frameF_17 pt_frameF_17 = true := by decide +kernel
end VFB
