theorem zpT0 : zcheck zpZ zpRS zpMT [] zpC0 zpP7 0 zpA0 [] 3000 = true := by decide +kernel
theorem zpT1 : zcheck zpZ zpRS zpMT [] zpC1 zpP0 2 zpA1 [] 3000 = true := by decide +kernel
theorem zpT2 : zcheck zpZ zpRS zpMT [] zpC2 zpP0 2 zpA2 [] 3000 = true := by decide +kernel
theorem zpT3 : zcheck zpZ zpRS zpMT [] zpC3 zpP0 2 zpA3 [] 3000 = true := by decide +kernel
theorem zpT4 : zcheck zpZ zpRS zpMT [zpC0, zpC1, zpC2, zpC3] zpC4 zpP0 1 zpA4 [] 3000 = true := by decide +kernel
theorem zpT5 : zcheck zpZ zpRS zpMT [] zpC5 zpP7 0 zpA5 [] 3000 = true := by decide +kernel
theorem zpT6 : zcheck zpZ zpRS zpMT [zpC1, zpC2, zpC3, zpC5] zpC6 zpP0 1 zpA6 [] 3000 = true := by decide +kernel
theorem zpT7 : zcheck zpZ zpRS zpMT [] zpC7 zpP7 0 zpA7 [] 3000 = true := by decide +kernel
theorem zpT8 : zcheck zpZ zpRS zpMT [zpC1, zpC2, zpC3, zpC7] zpC8 zpP0 1 zpA8 [] 3000 = true := by decide +kernel
theorem zpT9 : zcheck zpZ zpRS zpMT [] zpC9 zpP7 0 zpA9 [] 3000 = true := by decide +kernel
theorem zpT10 : zcheck zpZ zpRS zpMT [zpC1, zpC2, zpC3, zpC9] zpC10 zpP0 1 zpA10 [] 3000 = true := by decide +kernel
theorem zpT11 : zcheck zpZ zpRS zpMT [] zpC11 zpP7 0 zpA11 [] 3000 = true := by decide +kernel
theorem zpT12 : zcheck zpZ zpRS zpMT [zpC1, zpC2, zpC3, zpC11] zpC12 zpP0 1 zpA12 [] 3000 = true := by decide +kernel
theorem zpT13 : zcheck zpZ zpRS zpMT [] zpC13 zpP7 0 zpA13 [] 3000 = true := by decide +kernel
theorem zpT14 : zcheck zpZ zpRS zpMT [zpC1, zpC2, zpC3, zpC13] zpC14 zpP0 1 zpA14 [] 3000 = true := by decide +kernel
theorem zpT15 : zcheck zpZ zpRS zpMT [] zpC15 zpP7 0 zpA15 [] 3000 = true := by decide +kernel
theorem zpT16 : zcheck zpZ zpRS zpMT [zpC1, zpC2, zpC3, zpC15] zpC16 zpP0 1 zpA16 [] 3000 = true := by decide +kernel
theorem zpT17 : zcheck zpZ zpRS zpMT [] zpC17 zpP7 0 zpA17 [] 3000 = true := by decide +kernel
theorem zpT18 : zcheck zpZ zpRS zpMT [zpC1, zpC2, zpC3, zpC17] zpC18 zpP0 1 zpA18 [] 3000 = true := by decide +kernel
theorem zpT19 : zcheck zpZ zpRS zpMT [] zpC19 zpP7 0 zpA19 [] 3000 = true := by decide +kernel
theorem zpT20 : zcheck zpZ zpRS zpMT [zpC1, zpC2, zpC3, zpC19] zpC20 zpP0 1 zpA20 [] 3000 = true := by decide +kernel
theorem zpT21 : zcheck zpZ zpRS zpMT [] zpC21 zpP7 0 zpA21 [] 3000 = true := by decide +kernel
theorem zpT22 : zcheck zpZ zpRS zpMT [zpC1, zpC2, zpC3, zpC21] zpC22 zpP0 1 zpA22 [] 3000 = true := by decide +kernel
theorem zpT23 : zcheck zpZ zpRS zpMT [] zpC23 zpP7 0 zpA23 [] 3000 = true := by decide +kernel
theorem zpT24 : zcheck zpZ zpRS zpMT [zpC1, zpC2, zpC3, zpC23] zpC24 zpP0 1 zpA24 [] 3000 = true := by decide +kernel
theorem zpT25 : zcheck zpZ zpRS zpMT [] zpC25 zpP7 0 zpA25 [] 3000 = true := by decide +kernel
theorem zpT26 : zcheck zpZ zpRS zpMT [zpC1, zpC2, zpC3, zpC25] zpC26 zpP0 1 zpA26 [] 3000 = true := by decide +kernel
theorem zpT27 : zcheck zpZ zpRS zpMT [] zpC27 zpP7 0 zpA27 [] 3000 = true := by decide +kernel
theorem zpT28 : zcheck zpZ zpRS zpMT [zpC1, zpC2, zpC3, zpC27] zpC28 zpP0 1 zpA28 [] 3000 = true := by decide +kernel
theorem zpT29 : zcheck zpZ zpRS zpMT [] zpC29 zpP7 0 zpA29 [] 3000 = true := by decide +kernel
theorem zpT30 : zcheck zpZ zpRS zpMT [zpC1, zpC2, zpC3, zpC29] zpC30 zpP0 1 zpA30 [] 3000 = true := by decide +kernel
theorem zpT31 : zcheck zpZ zpRS zpMT [] zpC31 zpP7 0 zpA31 [] 3000 = true := by decide +kernel
theorem zpT32 : zcheck zpZ zpRS zpMT [zpC1, zpC2, zpC3, zpC31] zpC32 zpP0 1 zpA32 [] 3000 = true := by decide +kernel
theorem zpT33 : zcheck zpZ zpRS zpMT [] zpC33 zpP7 0 zpA33 [] 3000 = true := by decide +kernel
theorem zpT34 : zcheck zpZ zpRS zpMT [zpC1, zpC2, zpC3, zpC33] zpC34 zpP0 1 zpA34 [] 3000 = true := by decide +kernel
theorem zpT35 : zcheck zpZ zpRS zpMT [] zpC35 zpP7 0 zpA35 [] 3000 = true := by decide +kernel
theorem zpT36 : zcheck zpZ zpRS zpMT [zpC1, zpC2, zpC3, zpC35] zpC36 zpP0 1 zpA36 [] 3000 = true := by decide +kernel
theorem zpT37 : zcheck zpZ zpRS zpMT [] zpC37 zpP7 0 zpA37 [] 3000 = true := by decide +kernel
theorem zpT38 : zcheck zpZ zpRS zpMT [zpC1, zpC2, zpC3, zpC37] zpC38 zpP0 1 zpA38 [] 3000 = true := by decide +kernel
theorem zpT39 : zcheck zpZ zpRS zpMT [] zpC39 zpP7 0 zpA39 [] 3000 = true := by decide +kernel
theorem zpT40 : zcheck zpZ zpRS zpMT [zpC1, zpC2, zpC3, zpC39] zpC40 zpP0 1 zpA40 [] 3000 = true := by decide +kernel
theorem zpT41 : zcheck zpZ zpRS zpMT [] zpC41 zpP7 0 zpA41 [] 3000 = true := by decide +kernel
theorem zpT42 : zcheck zpZ zpRS zpMT [zpC1, zpC2, zpC3, zpC41] zpC42 zpP0 1 zpA42 [] 3000 = true := by decide +kernel
theorem zpT43 : zcheck zpZ zpRS zpMT [zpC1, zpC2, zpC3] zpC43 zpP0 1 zpA43 [] 3000 = true := by decide +kernel
theorem zpT44 : zcheck zpZ zpRS zpMT [] zpC44 zpP0 2 zpA44 [] 3000 = true := by decide +kernel
theorem zpT45 : zcheck zpZ zpRS zpMT [] zpC45 zpP0 2 zpA45 [] 3000 = true := by decide +kernel
theorem zpT46 : zcheck zpZ zpRS zpMT [] zpC46 zpP14 1 zpA46 [] 3000 = true := by decide +kernel
theorem zpT47 : zcheck zpZ zpRS zpMT [zpC44, zpC45, zpC46] zpC47 zpP0 1 zpA47 [] 3000 = true := by decide +kernel
theorem zpT48 : zcheck zpZ zpRS zpMT [zpC44, zpC45, zpC46] zpC48 zpP0 1 zpA48 [] 3000 = true := by decide +kernel
theorem zpT49 : zcheck zpZ zpRS zpMT [zpC44, zpC45, zpC46] zpC49 zpP0 1 zpA49 [] 3000 = true := by decide +kernel
theorem zpT50 : zcheck zpZ zpRS zpMT [zpC44, zpC45, zpC46] zpC50 zpP0 1 zpA50 [] 3000 = true := by decide +kernel
theorem zpT51 : zcheck zpZ zpRS zpMT [zpC44, zpC45, zpC46] zpC51 zpP0 1 zpA51 [] 3000 = true := by decide +kernel
theorem zpT52 : zcheck zpZ zpRS zpMT [zpC44, zpC45, zpC46] zpC52 zpP0 1 zpA52 [] 3000 = true := by decide +kernel
theorem zpT53 : zcheck zpZ zpRS zpMT [zpC44, zpC45, zpC46] zpC53 zpP0 1 zpA53 [] 3000 = true := by decide +kernel
theorem zpT54 : zcheck zpZ zpRS zpMT [zpC44, zpC45, zpC46] zpC54 zpP0 1 zpA54 [] 3000 = true := by decide +kernel
theorem zpT55 : zcheck zpZ zpRS zpMT [zpC44, zpC45, zpC46] zpC55 zpP0 1 zpA55 [] 3000 = true := by decide +kernel
theorem zpT56 : zcheck zpZ zpRS zpMT [zpC44, zpC45, zpC46] zpC56 zpP0 1 zpA56 [] 3000 = true := by decide +kernel
theorem zpT57 : zcheck zpZ zpRS zpMT [zpC44, zpC45, zpC46] zpC57 zpP0 1 zpA57 [] 3000 = true := by decide +kernel
theorem zpT58 : zcheck zpZ zpRS zpMT [zpC44, zpC45, zpC46] zpC58 zpP0 1 zpA58 [] 3000 = true := by decide +kernel
theorem zpT59 : zcheck zpZ zpRS zpMT [zpC44, zpC45, zpC46] zpC59 zpP0 1 zpA59 [] 3000 = true := by decide +kernel
theorem zpT60 : zcheck zpZ zpRS zpMT [zpC44, zpC45, zpC46] zpC60 zpP0 1 zpA60 [] 3000 = true := by decide +kernel
theorem zpT61 : zcheck zpZ zpRS zpMT [zpC44, zpC45, zpC46] zpC61 zpP0 1 zpA61 [] 3000 = true := by decide +kernel
theorem zpT62 : zcheck zpZ zpRS zpMT [zpC44, zpC45, zpC46] zpC62 zpP0 1 zpA62 [] 3000 = true := by decide +kernel
theorem zpT63 : zcheck zpZ zpRS zpMT [zpC44, zpC45, zpC46] zpC63 zpP0 1 zpA63 [] 3000 = true := by decide +kernel
theorem zpT64 : zcheck zpZ zpRS zpMT [zpC44, zpC45, zpC46] zpC64 zpP0 1 zpA64 [] 3000 = true := by decide +kernel
theorem zpT65 : zcheck zpZ zpRS zpMT [zpC44, zpC45, zpC46] zpC65 zpP0 1 zpA65 [] 3000 = true := by decide +kernel
theorem zpT66 : zcheck zpZ zpRS zpMT [zpC44, zpC45, zpC46] zpC66 zpP0 1 zpA66 [] 3000 = true := by decide +kernel
theorem zpT67 : zcheck zpZ zpRS zpMT [zpC44, zpC45, zpC46] zpC67 zpP0 1 zpA67 [] 3000 = true := by decide +kernel
theorem zpT68 : zcheck zpZ zpRS zpMT [zpC44, zpC45, zpC46] zpC68 zpP0 1 zpA68 [] 3000 = true := by decide +kernel
theorem zpT69 : zcheck zpZ zpRS zpMT [zpC44, zpC45, zpC46] zpC69 zpP0 1 zpA69 [] 3000 = true := by decide +kernel
theorem zpT70 : zcheck zpZ zpRS zpMT [zpC44, zpC45, zpC46] zpC70 zpP0 1 zpA70 [] 3000 = true := by decide +kernel
theorem zpT71 : zcheck zpZ zpRS zpMT [zpC44, zpC45, zpC46] zpC71 zpP0 1 zpA71 [] 3000 = true := by decide +kernel
theorem zpT72 : zcheck zpZ zpRS zpMT [zpC44, zpC45, zpC46] zpC72 zpP0 1 zpA72 [] 3000 = true := by decide +kernel
theorem zpT73 : zcheck zpZ zpRS zpMT [] zpC73 zpP1 0 zpA73 [] 3000 = true := by decide +kernel
theorem zpT74 : zcheck zpZ zpRS zpMT [zpC45] zpC74 zpP7 2 zpA74 [] 3000 = true := by decide +kernel
theorem zpT75 : zcheck zpZ zpRS zpMT [zpC73, zpC74] zpC75 zpP0 1 zpA75 [(28, 2, 0, 3)] 3000 = true := by decide +kernel
theorem zpT76 : zcheck zpZ zpRS zpMT [zpC73, zpC74] zpC76 zpP0 1 zpA76 [(28, 2, 0, 3)] 3000 = true := by decide +kernel
theorem zpT77 : zcheck zpZ zpRS zpMT [zpC73, zpC74] zpC77 zpP0 1 zpA77 [(28, 2, 0, 3)] 3000 = true := by decide +kernel
theorem zpT78 : zcheck zpZ zpRS zpMT [] zpC78 zpP1 1 zpA78 [] 3000 = true := by decide +kernel
theorem zpT79 : zcheck zpZ zpRS zpMT [zpC3, zpC78] zpC79 zpP1 1 zpA79 [] 3000 = true := by decide +kernel
theorem zpT80 : zcheck zpZ zpRS zpMT [zpC79] zpC80 zpP1 1 zpA80 [] 3000 = true := by decide +kernel
theorem zpT81 : zcheck zpZ zpRS zpMT [zpC80] zpC81 zpP1 1 zpA81 [] 3000 = true := by decide +kernel
theorem zpT82 : zcheck zpZ zpRS zpMT [] zpC82 zpP1 1 zpA82 [] 3000 = true := by decide +kernel
theorem zpT83 : zcheck zpZ zpRS zpMT [zpC3, zpC82] zpC83 zpP1 1 zpA83 [] 3000 = true := by decide +kernel
theorem zpT84 : zcheck zpZ zpRS zpMT [zpC83] zpC84 zpP1 1 zpA84 [] 3000 = true := by decide +kernel
theorem zpT85 : zcheck zpZ zpRS zpMT [zpC84] zpC85 zpP1 1 zpA85 [] 3000 = true := by decide +kernel
theorem zpT86 : zcheck zpZ zpRS zpMT [zpC3, zpC85] zpC86 zpP1 1 zpA86 [] 3000 = true := by decide +kernel
theorem zpT87 : zcheck zpZ zpRS zpMT [zpC86] zpC87 zpP1 1 zpA87 [] 3000 = true := by decide +kernel
theorem zpT88 : zcheck zpZ zpRS zpMT [zpC87] zpC88 zpP1 1 zpA88 [] 3000 = true := by decide +kernel
theorem zpT89 : zcheck zpZ zpRS zpMT [] zpC89 zpP1 1 zpA89 [] 3000 = true := by decide +kernel
theorem zpT90 : zcheck zpZ zpRS zpMT [zpC3, zpC89] zpC90 zpP1 1 zpA90 [] 3000 = true := by decide +kernel
theorem zpT91 : zcheck zpZ zpRS zpMT [zpC90] zpC91 zpP1 1 zpA91 [] 3000 = true := by decide +kernel
theorem zpT92 : zcheck zpZ zpRS zpMT [zpC91] zpC92 zpP1 1 zpA92 [] 3000 = true := by decide +kernel
theorem zpT93 : zcheck zpZ zpRS zpMT [] zpC93 zpP1 1 zpA93 [] 3000 = true := by decide +kernel
theorem zpT94 : zcheck zpZ zpRS zpMT [zpC3, zpC93] zpC94 zpP1 1 zpA94 [] 3000 = true := by decide +kernel
theorem zpT95 : zcheck zpZ zpRS zpMT [zpC94] zpC95 zpP1 1 zpA95 [] 3000 = true := by decide +kernel
theorem zpT96 : zcheck zpZ zpRS zpMT [zpC95] zpC96 zpP1 1 zpA96 [] 3000 = true := by decide +kernel
theorem zpT97 : zcheck zpZ zpRS zpMT [zpC3, zpC96] zpC97 zpP1 1 zpA97 [] 3000 = true := by decide +kernel
theorem zpT98 : zcheck zpZ zpRS zpMT [zpC97] zpC98 zpP1 1 zpA98 [] 3000 = true := by decide +kernel
theorem zpT99 : zcheck zpZ zpRS zpMT [] zpC99 zpP1 1 zpA99 [] 3000 = true := by decide +kernel
theorem zpT100 : zcheck zpZ zpRS zpMT [zpC3, zpC99] zpC100 zpP1 1 zpA100 [] 3000 = true := by decide +kernel
theorem zpT101 : zcheck zpZ zpRS zpMT [zpC100] zpC101 zpP1 1 zpA101 [] 3000 = true := by decide +kernel
theorem zpT102 : zcheck zpZ zpRS zpMT [zpC98, zpC101] zpC102 zpP1 1 zpA102 [] 3000 = true := by decide +kernel
theorem zpT103 : zcheck zpZ zpRS zpMT [zpC3, zpC102] zpC103 zpP1 1 zpA103 [] 3000 = true := by decide +kernel
theorem zpT104 : zcheck zpZ zpRS zpMT [zpC103] zpC104 zpP1 1 zpA104 [] 3000 = true := by decide +kernel
theorem zpT105 : zcheck zpZ zpRS zpMT [zpC104] zpC105 zpP1 1 zpA105 [] 3000 = true := by decide +kernel
theorem zpT106 : zcheck zpZ zpRS zpMT [] zpC106 zpP0 2 zpA106 [] 3000 = true := by decide +kernel
theorem zpT107 : zcheck zpZ zpRS zpMT [zpC73, zpC74, zpC81, zpC88, zpC92, zpC105, zpC106] zpC107 zpP0 1 zpA107 [(28, 2, 0, 3)] 3000 = true := by decide +kernel
theorem zpT108 : zcheck zpZ zpRS zpMT [] zpC108 zpP1 1 zpA108 [] 3000 = true := by decide +kernel
theorem zpT109 : zcheck zpZ zpRS zpMT [zpC3, zpC108] zpC109 zpP1 1 zpA109 [] 3000 = true := by decide +kernel
theorem zpT110 : zcheck zpZ zpRS zpMT [zpC109] zpC110 zpP1 1 zpA110 [] 3000 = true := by decide +kernel
theorem zpT111 : zcheck zpZ zpRS zpMT [zpC110] zpC111 zpP1 1 zpA111 [] 3000 = true := by decide +kernel
theorem zpT112 : zcheck zpZ zpRS zpMT [zpC3, zpC111] zpC112 zpP1 1 zpA112 [] 3000 = true := by decide +kernel
theorem zpT113 : zcheck zpZ zpRS zpMT [zpC112] zpC113 zpP1 1 zpA113 [] 3000 = true := by decide +kernel
theorem zpT114 : zcheck zpZ zpRS zpMT [zpC113] zpC114 zpP1 1 zpA114 [] 3000 = true := by decide +kernel
theorem zpT115 : zcheck zpZ zpRS zpMT [] zpC115 zpP1 1 zpA115 [] 3000 = true := by decide +kernel
theorem zpT116 : zcheck zpZ zpRS zpMT [zpC3, zpC115] zpC116 zpP1 1 zpA116 [] 3000 = true := by decide +kernel
theorem zpT117 : zcheck zpZ zpRS zpMT [zpC116] zpC117 zpP1 1 zpA117 [] 3000 = true := by decide +kernel
theorem zpT118 : zcheck zpZ zpRS zpMT [zpC117] zpC118 zpP1 1 zpA118 [] 3000 = true := by decide +kernel
theorem zpT119 : zcheck zpZ zpRS zpMT [zpC3, zpC118] zpC119 zpP1 1 zpA119 [] 3000 = true := by decide +kernel
theorem zpT120 : zcheck zpZ zpRS zpMT [zpC119] zpC120 zpP1 1 zpA120 [] 3000 = true := by decide +kernel
theorem zpT121 : zcheck zpZ zpRS zpMT [zpC120] zpC121 zpP1 1 zpA121 [] 3000 = true := by decide +kernel
theorem zpT122 : zcheck zpZ zpRS zpMT [zpC3, zpC121] zpC122 zpP1 1 zpA122 [] 3000 = true := by decide +kernel
theorem zpT123 : zcheck zpZ zpRS zpMT [zpC122] zpC123 zpP1 1 zpA123 [] 3000 = true := by decide +kernel
theorem zpT124 : zcheck zpZ zpRS zpMT [zpC123] zpC124 zpP1 1 zpA124 [] 3000 = true := by decide +kernel
theorem zpT125 : zcheck zpZ zpRS zpMT [] zpC125 zpP1 1 zpA125 [] 3000 = true := by decide +kernel
theorem zpT126 : zcheck zpZ zpRS zpMT [zpC3, zpC125] zpC126 zpP1 1 zpA126 [] 3000 = true := by decide +kernel
theorem zpT127 : zcheck zpZ zpRS zpMT [zpC126] zpC127 zpP1 1 zpA127 [] 3000 = true := by decide +kernel
theorem zpT128 : zcheck zpZ zpRS zpMT [zpC127] zpC128 zpP1 1 zpA128 [] 3000 = true := by decide +kernel
theorem zpT129 : zcheck zpZ zpRS zpMT [] zpC129 zpP1 1 zpA129 [] 3000 = true := by decide +kernel
theorem zpT130 : zcheck zpZ zpRS zpMT [zpC3, zpC129] zpC130 zpP1 1 zpA130 [] 3000 = true := by decide +kernel
theorem zpT131 : zcheck zpZ zpRS zpMT [zpC130] zpC131 zpP1 1 zpA131 [] 3000 = true := by decide +kernel
theorem zpT132 : zcheck zpZ zpRS zpMT [zpC131] zpC132 zpP1 1 zpA132 [] 3000 = true := by decide +kernel
theorem zpT133 : zcheck zpZ zpRS zpMT [zpC3, zpC132] zpC133 zpP1 1 zpA133 [] 3000 = true := by decide +kernel
theorem zpT134 : zcheck zpZ zpRS zpMT [zpC133] zpC134 zpP1 1 zpA134 [] 3000 = true := by decide +kernel
theorem zpT135 : zcheck zpZ zpRS zpMT [zpC134] zpC135 zpP1 1 zpA135 [] 3000 = true := by decide +kernel
theorem zpT136 : zcheck zpZ zpRS zpMT [zpC3, zpC135] zpC136 zpP1 1 zpA136 [] 3000 = true := by decide +kernel
theorem zpT137 : zcheck zpZ zpRS zpMT [zpC136] zpC137 zpP1 1 zpA137 [] 3000 = true := by decide +kernel
theorem zpT138 : zcheck zpZ zpRS zpMT [] zpC138 zpP1 1 zpA138 [] 3000 = true := by decide +kernel
theorem zpT139 : zcheck zpZ zpRS zpMT [zpC3, zpC138] zpC139 zpP1 1 zpA139 [] 3000 = true := by decide +kernel
theorem zpT140 : zcheck zpZ zpRS zpMT [zpC139] zpC140 zpP1 1 zpA140 [] 3000 = true := by decide +kernel
theorem zpT141 : zcheck zpZ zpRS zpMT [zpC137, zpC140] zpC141 zpP1 1 zpA141 [] 3000 = true := by decide +kernel
theorem zpT142 : zcheck zpZ zpRS zpMT [zpC3, zpC141] zpC142 zpP1 1 zpA142 [] 3000 = true := by decide +kernel
