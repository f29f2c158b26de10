/-! Printed by wip/ai/tab.py. -/
set_option maxRecDepth 1000000 in
theorem okP15 : PmOK rgT pm15 := (pm_cutG 2 1 (pm_cutG 17 0 okP15_0 okP15_1) (pm_cutG 2 2 (pm_cutG 17 0 (pm_cutG 18 0 okP15_2 okP15_3) (pm_cutG 18 0 okP15_4 okP15_5)) (pm_cutG 17 0 (pm_cutG 18 0 (pm_cutG 19 0 okP15_6 okP15_7) (pm_cutG 19 0 okP15_8 okP15_9)) (pm_cutG 19 0 (pm_cutG 18 0 okP15_10 okP15_11) (pm_cutG 18 1 okP15_12 okP15_13)))))
