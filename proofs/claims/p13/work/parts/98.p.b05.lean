section VFB
set_option maxRecDepth 100000 in
theorem kc_frameF_40 : vi_ptc vK vSG 1 4 0 vFT_X9 fp_frameF vCT_X9 vC2_X9 [] mt_frameF q_frameF.2.2.1 cX9_frame [31, 86] 400 pn_frameF_40 pt_frameF_40 = true := by decide +kernel
set_option maxRecDepth 100000 in
theorem kc_frameF_39 : vi_ptc vK vSG 1 4 0 vFT_X9 fp_frameF vCT_X9 vC2_X9 [] mt_frameF q_frameF.2.2.1 cX9_frame [31, 86] 400 pn_frameF_39 pt_frameF_39 = true := by decide +kernel
set_option maxRecDepth 100000 in
theorem kc_frameF_38 : vi_ptc vK vSG 1 4 0 vFT_X9 fp_frameF vCT_X9 vC2_X9 [] mt_frameF q_frameF.2.2.1 cX9_frame [31, 86] 400 pn_frameF_38 pt_frameF_38 = true := by decide +kernel
set_option maxRecDepth 100000 in
theorem kc_frameF_37 : vi_ptc vK vSG 1 4 0 vFT_X9 fp_frameF vCT_X9 vC2_X9 [] mt_frameF q_frameF.2.2.1 cX9_frame [31, 86] 400 pn_frameF_37 pt_frameF_37 = true := by decide +kernel
set_option maxRecDepth 100000 in
theorem kc_frameF_36 : vi_ptc vK vSG 1 4 0 vFT_X9 fp_frameF vCT_X9 vC2_X9 [] mt_frameF q_frameF.2.2.1 cX9_frame [31, 86] 400 pn_frameF_36 pt_frameF_36 = true := by decide +kernel
set_option maxRecDepth 100000 in
theorem kc_frameF_35 : vi_ptc vK vSG 1 4 0 vFT_X9 fp_frameF vCT_X9 vC2_X9 [] mt_frameF q_frameF.2.2.1 cX9_frame [31, 86] 400 pn_frameF_35 pt_frameF_35 = true := by decide +kernel
set_option maxRecDepth 100000 in
theorem kc_frameF_34 : vi_ptc vK vSG 1 4 0 vFT_X9 fp_frameF vCT_X9 vC2_X9 [] mt_frameF q_frameF.2.2.1 cX9_frame [31, 86] 400 pn_frameF_34 pt_frameF_34 = true := by decide +kernel
set_option maxRecDepth 100000 in
theorem kc_frameF_33 : vi_ptc vK vSG 1 4 0 vFT_X9 fp_frameF vCT_X9 vC2_X9 [] mt_frameF q_frameF.2.2.1 cX9_frame [31, 86] 400 pn_frameF_33 pt_frameF_33 = true := by decide +kernel
set_option maxRecDepth 100000 in
theorem kc_frameF_32 : vi_ptc vK vSG 1 4 0 vFT_X9 fp_frameF vCT_X9 vC2_X9 [] mt_frameF q_frameF.2.2.1 cX9_frame [31, 86] 400 pn_frameF_32 pt_frameF_32 = true := by decide +kernel
set_option maxRecDepth 100000 in
theorem kc_frameF_31 : vi_ptc vK vSG 1 4 0 vFT_X9 fp_frameF vCT_X9 vC2_X9 [] mt_frameF q_frameF.2.2.1 cX9_frame [31, 86] 400 pn_frameF_31 pt_frameF_31 = true := by decide +kernel
set_option maxRecDepth 100000 in
theorem kc_frameF_30 : vi_ptc vK vSG 1 4 0 vFT_X9 fp_frameF vCT_X9 vC2_X9 [] mt_frameF q_frameF.2.2.1 cX9_frame [31, 86] 400 pn_frameF_30 pt_frameF_30 = true := by decide +kernel
set_option maxRecDepth 100000 in
theorem kc_frameF_29 : vi_ptc vK vSG 1 4 0 vFT_X9 fp_frameF vCT_X9 vC2_X9 [] mt_frameF q_frameF.2.2.1 cX9_frame [31, 86] 400 pn_frameF_29 pt_frameF_29 = true := by decide +kernel
end VFB
