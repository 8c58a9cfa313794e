section VFB
set_option maxRecDepth 100000 in
theorem kc_frameF_64 : vi_ptc vK vSG 1 4 0 vFT_X9 fp_frameF vCT_X9 vC2_X9 [] mt_frameF q_frameF.2.2.1 cX9_frame [31, 86] 400 pn_frameF_64 pt_frameF_64 = true := by decide +kernel
set_option maxRecDepth 100000 in
theorem kc_frameF_63 : vi_ptc vK vSG 1 4 0 vFT_X9 fp_frameF vCT_X9 vC2_X9 [] mt_frameF q_frameF.2.2.1 cX9_frame [31, 86] 400 pn_frameF_63 pt_frameF_63 = true := by decide +kernel
set_option maxRecDepth 100000 in
theorem kc_frameF_62 : vi_ptc vK vSG 1 4 0 vFT_X9 fp_frameF vCT_X9 vC2_X9 [] mt_frameF q_frameF.2.2.1 cX9_frame [31, 86] 400 pn_frameF_62 pt_frameF_62 = true := by decide +kernel
set_option maxRecDepth 100000 in
theorem kc_frameF_61 : vi_ptc vK vSG 1 4 0 vFT_X9 fp_frameF vCT_X9 vC2_X9 [] mt_frameF q_frameF.2.2.1 cX9_frame [31, 86] 400 pn_frameF_61 pt_frameF_61 = true := by decide +kernel
set_option maxRecDepth 100000 in
theorem kc_frameF_60 : vi_ptc vK vSG 1 4 0 vFT_X9 fp_frameF vCT_X9 vC2_X9 [] mt_frameF q_frameF.2.2.1 cX9_frame [31, 86] 400 pn_frameF_60 pt_frameF_60 = true := by decide +kernel
set_option maxRecDepth 100000 in
theorem kc_frameF_59 : vi_ptc vK vSG 1 4 0 vFT_X9 fp_frameF vCT_X9 vC2_X9 [] mt_frameF q_frameF.2.2.1 cX9_frame [31, 86] 400 pn_frameF_59 pt_frameF_59 = true := by decide +kernel
set_option maxRecDepth 100000 in
theorem kc_frameF_58 : vi_ptc vK vSG 1 4 0 vFT_X9 fp_frameF vCT_X9 vC2_X9 [] mt_frameF q_frameF.2.2.1 cX9_frame [31, 86] 400 pn_frameF_58 pt_frameF_58 = true := by decide +kernel
set_option maxRecDepth 100000 in
theorem kc_frameF_57 : vi_ptc vK vSG 1 4 0 vFT_X9 fp_frameF vCT_X9 vC2_X9 [] mt_frameF q_frameF.2.2.1 cX9_frame [31, 86] 400 pn_frameF_57 pt_frameF_57 = true := by decide +kernel
set_option maxRecDepth 100000 in
theorem kc_frameF_56 : vi_ptc vK vSG 1 4 0 vFT_X9 fp_frameF vCT_X9 vC2_X9 [] mt_frameF q_frameF.2.2.1 cX9_frame [31, 86] 400 pn_frameF_56 pt_frameF_56 = true := by decide +kernel
set_option maxRecDepth 100000 in
theorem kc_frameF_55 : vi_ptc vK vSG 1 4 0 vFT_X9 fp_frameF vCT_X9 vC2_X9 [] mt_frameF q_frameF.2.2.1 cX9_frame [31, 86] 400 pn_frameF_55 pt_frameF_55 = true := by decide +kernel
set_option maxRecDepth 100000 in
theorem kc_frameF_54 : vi_ptc vK vSG 1 4 0 vFT_X9 fp_frameF vCT_X9 vC2_X9 [] mt_frameF q_frameF.2.2.1 cX9_frame [31, 86] 400 pn_frameF_54 pt_frameF_54 = true := by decide +kernel
set_option maxRecDepth 100000 in
theorem kc_frameF_53 : vi_ptc vK vSG 1 4 0 vFT_X9 fp_frameF vCT_X9 vC2_X9 [] mt_frameF q_frameF.2.2.1 cX9_frame [31, 86] 400 pn_frameF_53 pt_frameF_53 = true := by decide +kernel
end VFB
