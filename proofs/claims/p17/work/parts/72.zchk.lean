theorem zpT99 : zcheck zpZ zpRS zpMT [zpC23, zpC30, zpC31, zpC92, zpC98] zpC99 zpP10 0 zpA99 [] 3000 = true := by decide +kernel
theorem zpT100 : zcheck zpZ zpRS zpMT [zpC23, zpC30, zpC31, zpC91, zpC92, zpC99] zpC100 zpP10 0 zpA100 [] 3000 = true := by decide +kernel
theorem zpT101 : zcheck zpZ zpRS zpMT [zpC31, zpC90, zpC100] zpC101 zpP10 0 zpA101 [] 3000 = true := by decide +kernel
theorem zpT102 : zcheck zpZ zpRS zpMT [zpC31, zpC89, zpC101] zpC102 zpP10 0 zpA102 [] 3000 = true := by decide +kernel
theorem zpT103 : zcheck zpZ zpRS zpMT [zpC23, zpC24, zpC30, zpC31, zpC32, zpC34, zpC91, zpC92, zpC93, zpC94, zpC95, zpC96, zpC97, zpC102] zpC103 zpP10 0 zpA103 [] 3000 = true := by decide +kernel
theorem zpT104 : zcheck zpZ zpRS zpMT [zpC23, zpC30, zpC31, zpC92, zpC103] zpC104 zpP10 0 zpA104 [] 3000 = true := by decide +kernel
theorem zpT105 : zcheck zpZ zpRS zpMT [zpC23, zpC30, zpC31, zpC92, zpC104] zpC105 zpP10 0 zpA105 [] 3000 = true := by decide +kernel
theorem zpT106 : zcheck zpZ zpRS zpMT [zpC23, zpC30, zpC31, zpC91, zpC92, zpC105] zpC106 zpP10 0 zpA106 [] 3000 = true := by decide +kernel
theorem zpT107 : zcheck zpZ zpRS zpMT [zpC31, zpC90, zpC106] zpC107 zpP10 0 zpA107 [] 3000 = true := by decide +kernel
theorem zpT108 : zcheck zpZ zpRS zpMT [zpC31, zpC89, zpC107] zpC108 zpP10 0 zpA108 [] 3000 = true := by decide +kernel
theorem zpT109 : zcheck zpZ zpRS zpMT [zpC23, zpC24, zpC30, zpC31, zpC32, zpC34, zpC91, zpC92, zpC93, zpC94, zpC95, zpC96, zpC103, zpC108] zpC109 zpP10 0 zpA109 [] 3000 = true := by decide +kernel
theorem zpT110 : zcheck zpZ zpRS zpMT [zpC23, zpC30, zpC31, zpC92, zpC109] zpC110 zpP10 0 zpA110 [] 3000 = true := by decide +kernel
theorem zpT111 : zcheck zpZ zpRS zpMT [zpC23, zpC30, zpC31, zpC92, zpC110] zpC111 zpP10 0 zpA111 [] 3000 = true := by decide +kernel
theorem zpT112 : zcheck zpZ zpRS zpMT [zpC23, zpC30, zpC31, zpC91, zpC92, zpC111] zpC112 zpP10 0 zpA112 [] 3000 = true := by decide +kernel
theorem zpT113 : zcheck zpZ zpRS zpMT [zpC31, zpC90, zpC112] zpC113 zpP10 0 zpA113 [] 3000 = true := by decide +kernel
theorem zpT114 : zcheck zpZ zpRS zpMT [zpC31, zpC89, zpC113] zpC114 zpP10 0 zpA114 [] 3000 = true := by decide +kernel
theorem zpT115 : zcheck zpZ zpRS zpMT [zpC23, zpC24, zpC30, zpC31, zpC32, zpC34, zpC91, zpC92, zpC93, zpC94, zpC95, zpC96, zpC109, zpC114] zpC115 zpP10 0 zpA115 [] 3000 = true := by decide +kernel
theorem zpT116 : zcheck zpZ zpRS zpMT [zpC23, zpC30, zpC31, zpC92, zpC115] zpC116 zpP10 0 zpA116 [] 3000 = true := by decide +kernel
theorem zpT117 : zcheck zpZ zpRS zpMT [zpC23, zpC30, zpC31, zpC92, zpC116] zpC117 zpP10 0 zpA117 [] 3000 = true := by decide +kernel
theorem zpT118 : zcheck zpZ zpRS zpMT [zpC23, zpC30, zpC31, zpC91, zpC92, zpC117] zpC118 zpP10 0 zpA118 [] 3000 = true := by decide +kernel
theorem zpT119 : zcheck zpZ zpRS zpMT [zpC31, zpC90, zpC118] zpC119 zpP10 0 zpA119 [] 3000 = true := by decide +kernel
theorem zpT120 : zcheck zpZ zpRS zpMT [zpC31, zpC89, zpC119] zpC120 zpP10 0 zpA120 [] 3000 = true := by decide +kernel
theorem zpT121 : zcheck zpZ zpRS zpMT [zpC23, zpC24, zpC30, zpC31, zpC32, zpC34, zpC91, zpC92, zpC93, zpC94, zpC95, zpC96, zpC115, zpC120] zpC121 zpP10 0 zpA121 [] 3000 = true := by decide +kernel
theorem zpT122 : zcheck zpZ zpRS zpMT [zpC23, zpC30, zpC31, zpC92, zpC121] zpC122 zpP10 0 zpA122 [] 3000 = true := by decide +kernel
theorem zpT123 : zcheck zpZ zpRS zpMT [zpC23, zpC30, zpC31, zpC92, zpC122] zpC123 zpP10 0 zpA123 [] 3000 = true := by decide +kernel
theorem zpT124 : zcheck zpZ zpRS zpMT [zpC23, zpC30, zpC31, zpC91, zpC92, zpC123] zpC124 zpP10 0 zpA124 [] 3000 = true := by decide +kernel
theorem zpT125 : zcheck zpZ zpRS zpMT [zpC31, zpC90, zpC124] zpC125 zpP10 0 zpA125 [] 3000 = true := by decide +kernel
theorem zpT126 : zcheck zpZ zpRS zpMT [zpC31, zpC89, zpC125] zpC126 zpP10 0 zpA126 [] 3000 = true := by decide +kernel
theorem zpT127 : zcheck zpZ zpRS zpMT [zpC23, zpC24, zpC30, zpC31, zpC32, zpC34, zpC91, zpC92, zpC93, zpC94, zpC95, zpC96, zpC121, zpC126] zpC127 zpP10 0 zpA127 [] 3000 = true := by decide +kernel
theorem zpT128 : zcheck zpZ zpRS zpMT [zpC23, zpC30, zpC31, zpC92, zpC127] zpC128 zpP10 0 zpA128 [] 3000 = true := by decide +kernel
theorem zpT129 : zcheck zpZ zpRS zpMT [zpC23, zpC30, zpC31, zpC92, zpC128] zpC129 zpP10 0 zpA129 [] 3000 = true := by decide +kernel
theorem zpT130 : zcheck zpZ zpRS zpMT [zpC23, zpC30, zpC31, zpC91, zpC92, zpC129] zpC130 zpP10 0 zpA130 [] 3000 = true := by decide +kernel
theorem zpT131 : zcheck zpZ zpRS zpMT [zpC31, zpC90, zpC130] zpC131 zpP10 0 zpA131 [] 3000 = true := by decide +kernel
theorem zpT132 : zcheck zpZ zpRS zpMT [zpC31, zpC89, zpC131] zpC132 zpP10 0 zpA132 [] 3000 = true := by decide +kernel
theorem zpT133 : zcheck zpZ zpRS zpMT [zpC23, zpC24, zpC30, zpC31, zpC32, zpC34, zpC91, zpC92, zpC93, zpC94, zpC95, zpC96, zpC127, zpC132] zpC133 zpP10 0 zpA133 [] 3000 = true := by decide +kernel
theorem zpT134 : zcheck zpZ zpRS zpMT [zpC23, zpC30, zpC31, zpC92, zpC133] zpC134 zpP10 0 zpA134 [] 3000 = true := by decide +kernel
theorem zpT135 : zcheck zpZ zpRS zpMT [zpC23, zpC30, zpC31, zpC92, zpC134] zpC135 zpP10 0 zpA135 [] 3000 = true := by decide +kernel
theorem zpT136 : zcheck zpZ zpRS zpMT [zpC23, zpC30, zpC31, zpC91, zpC92, zpC135] zpC136 zpP10 0 zpA136 [] 3000 = true := by decide +kernel
theorem zpT137 : zcheck zpZ zpRS zpMT [zpC31, zpC90, zpC136] zpC137 zpP10 0 zpA137 [] 3000 = true := by decide +kernel
theorem zpT138 : zcheck zpZ zpRS zpMT [zpC31, zpC89, zpC137] zpC138 zpP10 0 zpA138 [] 3000 = true := by decide +kernel
theorem zpT140 : zcheck zpZ zpRS zpMT [zpC22, zpC24, zpC30, zpC31, zpC49, zpC139] zpC140 zpP10 1 zpA140 [] 3000 = true := by decide +kernel
theorem zpT141 : zcheck zpZ zpRS zpMT [zpC140] zpC141 zpP7 1 zpA141 [] 3000 = true := by decide +kernel
