section VFB
set_option maxRecDepth 100000 in
theorem kc_frameF_100 : vi_ptc vK vSG 1 4 0 vFT_X9 fp_frameF vCT_X9 vC2_X9 [] mt_frameF q_frameF.2.2.1 cX9_frame [31, 86] 400 pn_frameF_100 pt_frameF_100 = true := by decide +kernel
set_option maxRecDepth 100000 in
theorem kc_frameF_99 : vi_ptc vK vSG 1 4 0 vFT_X9 fp_frameF vCT_X9 vC2_X9 [] mt_frameF q_frameF.2.2.1 cX9_frame [31, 86] 400 pn_frameF_99 pt_frameF_99 = true := by decide +kernel
set_option maxRecDepth 100000 in
theorem kc_frameF_98 : vi_ptc vK vSG 1 4 0 vFT_X9 fp_frameF vCT_X9 vC2_X9 [] mt_frameF q_frameF.2.2.1 cX9_frame [31, 86] 400 pn_frameF_98 pt_frameF_98 = true := by decide +kernel
set_option maxRecDepth 100000 in
theorem kc_frameF_97 : vi_ptc vK vSG 1 4 0 vFT_X9 fp_frameF vCT_X9 vC2_X9 [] mt_frameF q_frameF.2.2.1 cX9_frame [31, 86] 400 pn_frameF_97 pt_frameF_97 = true := by decide +kernel
set_option maxRecDepth 100000 in
theorem kc_frameF_96 : vi_ptc vK vSG 1 4 0 vFT_X9 fp_frameF vCT_X9 vC2_X9 [] mt_frameF q_frameF.2.2.1 cX9_frame [31, 86] 400 pn_frameF_96 pt_frameF_96 = true := by decide +kernel
set_option maxRecDepth 100000 in
theorem kc_frameF_95 : vi_ptc vK vSG 1 4 0 vFT_X9 fp_frameF vCT_X9 vC2_X9 [] mt_frameF q_frameF.2.2.1 cX9_frame [31, 86] 400 pn_frameF_95 pt_frameF_95 = true := by decide +kernel
set_option maxRecDepth 100000 in
theorem kc_frameF_94 : vi_ptc vK vSG 1 4 0 vFT_X9 fp_frameF vCT_X9 vC2_X9 [] mt_frameF q_frameF.2.2.1 cX9_frame [31, 86] 400 pn_frameF_94 pt_frameF_94 = true := by decide +kernel
set_option maxRecDepth 100000 in
theorem kc_frameF_93 : vi_ptc vK vSG 1 4 0 vFT_X9 fp_frameF vCT_X9 vC2_X9 [] mt_frameF q_frameF.2.2.1 cX9_frame [31, 86] 400 pn_frameF_93 pt_frameF_93 = true := by decide +kernel
set_option maxRecDepth 100000 in
theorem kc_frameF_92 : vi_ptc vK vSG 1 4 0 vFT_X9 fp_frameF vCT_X9 vC2_X9 [] mt_frameF q_frameF.2.2.1 cX9_frame [31, 86] 400 pn_frameF_92 pt_frameF_92 = true := by decide +kernel
set_option maxRecDepth 100000 in
theorem kc_frameF_91 : vi_ptc vK vSG 1 4 0 vFT_X9 fp_frameF vCT_X9 vC2_X9 [] mt_frameF q_frameF.2.2.1 cX9_frame [31, 86] 400 pn_frameF_91 pt_frameF_91 = true := by decide +kernel
set_option maxRecDepth 100000 in
theorem kc_frameF_90 : vi_ptc vK vSG 1 4 0 vFT_X9 fp_frameF vCT_X9 vC2_X9 [] mt_frameF q_frameF.2.2.1 cX9_frame [31, 86] 400 pn_frameF_90 pt_frameF_90 = true := by decide +kernel
set_option maxRecDepth 100000 in
theorem kc_frameF_89 : vi_ptc vK vSG 1 4 0 vFT_X9 fp_frameF vCT_X9 vC2_X9 [] mt_frameF q_frameF.2.2.1 cX9_frame [31, 86] 400 pn_frameF_89 pt_frameF_89 = true := by decide +kernel
end VFB
