section VFB
set_option maxRecDepth 100000 in
theorem kc_frameF_52 : vi_ptc vK vSG 1 4 0 vFT_X9 fp_frameF vCT_X9 vC2_X9 [] mt_frameF q_frameF.2.2.1 cX9_frame [31, 86] 400 pn_frameF_52 pt_frameF_52 = true := by decide +kernel
set_option maxRecDepth 100000 in
theorem kc_frameF_51 : vi_ptc vK vSG 1 4 0 vFT_X9 fp_frameF vCT_X9 vC2_X9 [] mt_frameF q_frameF.2.2.1 cX9_frame [31, 86] 400 pn_frameF_51 pt_frameF_51 = true := by decide +kernel
set_option maxRecDepth 100000 in
theorem kc_frameF_50 : vi_ptc vK vSG 1 4 0 vFT_X9 fp_frameF vCT_X9 vC2_X9 [] mt_frameF q_frameF.2.2.1 cX9_frame [31, 86] 400 pn_frameF_50 pt_frameF_50 = true := by decide +kernel
set_option maxRecDepth 100000 in
theorem kc_frameF_49 : vi_ptc vK vSG 1 4 0 vFT_X9 fp_frameF vCT_X9 vC2_X9 [] mt_frameF q_frameF.2.2.1 cX9_frame [31, 86] 400 pn_frameF_49 pt_frameF_49 = true := by decide +kernel
set_option maxRecDepth 100000 in
theorem kc_frameF_48 : vi_ptc vK vSG 1 4 0 vFT_X9 fp_frameF vCT_X9 vC2_X9 [] mt_frameF q_frameF.2.2.1 cX9_frame [31, 86] 400 pn_frameF_48 pt_frameF_48 = true := by decide +kernel
set_option maxRecDepth 100000 in
theorem kc_frameF_47 : vi_ptc vK vSG 1 4 0 vFT_X9 fp_frameF vCT_X9 vC2_X9 [] mt_frameF q_frameF.2.2.1 cX9_frame [31, 86] 400 pn_frameF_47 pt_frameF_47 = true := by decide +kernel
set_option maxRecDepth 100000 in
theorem kc_frameF_46 : vi_ptc vK vSG 1 4 0 vFT_X9 fp_frameF vCT_X9 vC2_X9 [] mt_frameF q_frameF.2.2.1 cX9_frame [31, 86] 400 pn_frameF_46 pt_frameF_46 = true := by decide +kernel
set_option maxRecDepth 100000 in
theorem kc_frameF_45 : vi_ptc vK vSG 1 4 0 vFT_X9 fp_frameF vCT_X9 vC2_X9 [] mt_frameF q_frameF.2.2.1 cX9_frame [31, 86] 400 pn_frameF_45 pt_frameF_45 = true := by decide +kernel
set_option maxRecDepth 100000 in
theorem kc_frameF_44 : vi_ptc vK vSG 1 4 0 vFT_X9 fp_frameF vCT_X9 vC2_X9 [] mt_frameF q_frameF.2.2.1 cX9_frame [31, 86] 400 pn_frameF_44 pt_frameF_44 = true := by decide +kernel
set_option maxRecDepth 100000 in
theorem kc_frameF_43 : vi_ptc vK vSG 1 4 0 vFT_X9 fp_frameF vCT_X9 vC2_X9 [] mt_frameF q_frameF.2.2.1 cX9_frame [31, 86] 400 pn_frameF_43 pt_frameF_43 = true := by decide +kernel
set_option maxRecDepth 100000 in
theorem kc_frameF_42 : vi_ptc vK vSG 1 4 0 vFT_X9 fp_frameF vCT_X9 vC2_X9 [] mt_frameF q_frameF.2.2.1 cX9_frame [31, 86] 400 pn_frameF_42 pt_frameF_42 = true := by decide +kernel
set_option maxRecDepth 100000 in
theorem kc_frameF_41 : vi_ptc vK vSG 1 4 0 vFT_X9 fp_frameF vCT_X9 vC2_X9 [] mt_frameF q_frameF.2.2.1 cX9_frame [31, 86] 400 pn_frameF_41 pt_frameF_41 = true := by decide +kernel
end VFB
