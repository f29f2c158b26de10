/-! Printed by wip/ai/tab.py. -/
set_option maxRecDepth 1000000 in
theorem okP8 : PmOK rgT pm8 := (pm_cutG 2 1 (pm_cutG 17 0 okP8_0 okP8_1) (pm_cutG 2 2 (pm_cutG 17 0 (pm_cutG 18 0 okP8_2 okP8_3) (pm_cutG 18 0 okP8_4 okP8_5)) (pm_cutG 17 0 (pm_cutG 18 0 (pm_cutG 19 0 okP8_6 okP8_7) (pm_cutG 19 0 okP8_8 okP8_9)) (pm_cutG 19 0 (pm_cutG 18 0 okP8_10 okP8_11) (pm_cutG 18 1 okP8_12 okP8_13)))))
