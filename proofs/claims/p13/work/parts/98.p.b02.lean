section VFB
set_option maxRecDepth 100000 in
theorem kc_frameF_76 : vi_ptc vK vSG 1 4 0 vFT_X9 fp_frameF vCT_X9 vC2_X9 [] mt_frameF q_frameF.2.2.1 cX9_frame [31, 86] 400 pn_frameF_76 pt_frameF_76 = true := by decide +kernel
set_option maxRecDepth 100000 in
theorem kc_frameF_75 : vi_ptc vK vSG 1 4 0 vFT_X9 fp_frameF vCT_X9 vC2_X9 [] mt_frameF q_frameF.2.2.1 cX9_frame [31, 86] 400 pn_frameF_75 pt_frameF_75 = true := by decide +kernel
set_option maxRecDepth 100000 in
theorem kc_frameF_74 : vi_ptc vK vSG 1 4 0 vFT_X9 fp_frameF vCT_X9 vC2_X9 [] mt_frameF q_frameF.2.2.1 cX9_frame [31, 86] 400 pn_frameF_74 pt_frameF_74 = true := by decide +kernel
set_option maxRecDepth 100000 in
theorem kc_frameF_73 : vi_ptc vK vSG 1 4 0 vFT_X9 fp_frameF vCT_X9 vC2_X9 [] mt_frameF q_frameF.2.2.1 cX9_frame [31, 86] 400 pn_frameF_73 pt_frameF_73 = true := by decide +kernel
set_option maxRecDepth 100000 in
theorem kc_frameF_72 : vi_ptc vK vSG 1 4 0 vFT_X9 fp_frameF vCT_X9 vC2_X9 [] mt_frameF q_frameF.2.2.1 cX9_frame [31, 86] 400 pn_frameF_72 pt_frameF_72 = true := by decide +kernel
set_option maxRecDepth 100000 in
theorem kc_frameF_71 : vi_ptc vK vSG 1 4 0 vFT_X9 fp_frameF vCT_X9 vC2_X9 [] mt_frameF q_frameF.2.2.1 cX9_frame [31, 86] 400 pn_frameF_71 pt_frameF_71 = true := by decide +kernel
set_option maxRecDepth 100000 in
theorem kc_frameF_70 : vi_ptc vK vSG 1 4 0 vFT_X9 fp_frameF vCT_X9 vC2_X9 [] mt_frameF q_frameF.2.2.1 cX9_frame [31, 86] 400 pn_frameF_70 pt_frameF_70 = true := by decide +kernel
set_option maxRecDepth 100000 in
theorem kc_frameF_69 : vi_ptc vK vSG 1 4 0 vFT_X9 fp_frameF vCT_X9 vC2_X9 [] mt_frameF q_frameF.2.2.1 cX9_frame [31, 86] 400 pn_frameF_69 pt_frameF_69 = true := by decide +kernel
set_option maxRecDepth 100000 in
theorem kc_frameF_68 : vi_ptc vK vSG 1 4 0 vFT_X9 fp_frameF vCT_X9 vC2_X9 [] mt_frameF q_frameF.2.2.1 cX9_frame [31, 86] 400 pn_frameF_68 pt_frameF_68 = true := by decide +kernel
set_option maxRecDepth 100000 in
theorem kc_frameF_67 : vi_ptc vK vSG 1 4 0 vFT_X9 fp_frameF vCT_X9 vC2_X9 [] mt_frameF q_frameF.2.2.1 cX9_frame [31, 86] 400 pn_frameF_67 pt_frameF_67 = true := by decide +kernel
set_option maxRecDepth 100000 in
theorem kc_frameF_66 : vi_ptc vK vSG 1 4 0 vFT_X9 fp_frameF vCT_X9 vC2_X9 [] mt_frameF q_frameF.2.2.1 cX9_frame [31, 86] 400 pn_frameF_66 pt_frameF_66 = true := by decide +kernel
set_option maxRecDepth 100000 in
theorem kc_frameF_65 : vi_ptc vK vSG 1 4 0 vFT_X9 fp_frameF vCT_X9 vC2_X9 [] mt_frameF q_frameF.2.2.1 cX9_frame [31, 86] 400 pn_frameF_65 pt_frameF_65 = true := by decide +kernel
end VFB
