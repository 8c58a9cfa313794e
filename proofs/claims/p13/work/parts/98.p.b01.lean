section VFB
set_option maxRecDepth 100000 in
theorem kc_frameF_88 : vi_ptc vK vSG 1 4 0 vFT_X9 fp_frameF vCT_X9 vC2_X9 [] mt_frameF q_frameF.2.2.1 cX9_frame [31, 86] 400 pn_frameF_88 pt_frameF_88 = true := by decide +kernel
set_option maxRecDepth 100000 in
theorem kc_frameF_87 : vi_ptc vK vSG 1 4 0 vFT_X9 fp_frameF vCT_X9 vC2_X9 [] mt_frameF q_frameF.2.2.1 cX9_frame [31, 86] 400 pn_frameF_87 pt_frameF_87 = true := by decide +kernel
set_option maxRecDepth 100000 in
theorem kc_frameF_86 : vi_ptc vK vSG 1 4 0 vFT_X9 fp_frameF vCT_X9 vC2_X9 [] mt_frameF q_frameF.2.2.1 cX9_frame [31, 86] 400 pn_frameF_86 pt_frameF_86 = true := by decide +kernel
set_option maxRecDepth 100000 in
theorem kc_frameF_85 : vi_ptc vK vSG 1 4 0 vFT_X9 fp_frameF vCT_X9 vC2_X9 [] mt_frameF q_frameF.2.2.1 cX9_frame [31, 86] 400 pn_frameF_85 pt_frameF_85 = true := by decide +kernel
set_option maxRecDepth 100000 in
theorem kc_frameF_84 : vi_ptc vK vSG 1 4 0 vFT_X9 fp_frameF vCT_X9 vC2_X9 [] mt_frameF q_frameF.2.2.1 cX9_frame [31, 86] 400 pn_frameF_84 pt_frameF_84 = true := by decide +kernel
set_option maxRecDepth 100000 in
theorem kc_frameF_83 : vi_ptc vK vSG 1 4 0 vFT_X9 fp_frameF vCT_X9 vC2_X9 [] mt_frameF q_frameF.2.2.1 cX9_frame [31, 86] 400 pn_frameF_83 pt_frameF_83 = true := by decide +kernel
set_option maxRecDepth 100000 in
theorem kc_frameF_82 : vi_ptc vK vSG 1 4 0 vFT_X9 fp_frameF vCT_X9 vC2_X9 [] mt_frameF q_frameF.2.2.1 cX9_frame [31, 86] 400 pn_frameF_82 pt_frameF_82 = true := by decide +kernel
set_option maxRecDepth 100000 in
theorem kc_frameF_81 : vi_ptc vK vSG 1 4 0 vFT_X9 fp_frameF vCT_X9 vC2_X9 [] mt_frameF q_frameF.2.2.1 cX9_frame [31, 86] 400 pn_frameF_81 pt_frameF_81 = true := by decide +kernel
set_option maxRecDepth 100000 in
theorem kc_frameF_80 : vi_ptc vK vSG 1 4 0 vFT_X9 fp_frameF vCT_X9 vC2_X9 [] mt_frameF q_frameF.2.2.1 cX9_frame [31, 86] 400 pn_frameF_80 pt_frameF_80 = true := by decide +kernel
set_option maxRecDepth 100000 in
theorem kc_frameF_79 : vi_ptc vK vSG 1 4 0 vFT_X9 fp_frameF vCT_X9 vC2_X9 [] mt_frameF q_frameF.2.2.1 cX9_frame [31, 86] 400 pn_frameF_79 pt_frameF_79 = true := by decide +kernel
set_option maxRecDepth 100000 in
theorem kc_frameF_78 : vi_ptc vK vSG 1 4 0 vFT_X9 fp_frameF vCT_X9 vC2_X9 [] mt_frameF q_frameF.2.2.1 cX9_frame [31, 86] 400 pn_frameF_78 pt_frameF_78 = true := by decide +kernel
set_option maxRecDepth 100000 in
theorem kc_frameF_77 : vi_ptc vK vSG 1 4 0 vFT_X9 fp_frameF vCT_X9 vC2_X9 [] mt_frameF q_frameF.2.2.1 cX9_frame [31, 86] 400 pn_frameF_77 pt_frameF_77 = true := by decide +kernel
end VFB
