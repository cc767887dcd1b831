theorem zpT60 : zcheck zpZ zpRS zpMT [zpC52, zpC53, zpC56, zpC59] zpC60 zpP9 0 zpA60 [] 3000 = true := by decide +kernel
theorem zpT61 : zcheck zpZ zpRS zpMT [zpC52, zpC53, zpC56, zpC60] zpC61 zpP9 0 zpA61 [] 3000 = true := by decide +kernel
theorem zpT62 : zcheck zpZ zpRS zpMT [zpC52, zpC53, zpC56, zpC61] zpC62 zpP9 0 zpA62 [] 3000 = true := by decide +kernel
theorem zpT63 : zcheck zpZ zpRS zpMT [zpC53, zpC56, zpC62] zpC63 zpP9 0 zpA63 [] 3000 = true := by decide +kernel
theorem zpT64 : zcheck zpZ zpRS zpMT [zpC53, zpC56, zpC63] zpC64 zpP9 0 zpA64 [] 3000 = true := by decide +kernel
theorem zpT65 : zcheck zpZ zpRS zpMT [zpC52, zpC53, zpC55, zpC56, zpC57, zpC58, zpC59, zpC64] zpC65 zpP9 0 zpA65 [] 3000 = true := by decide +kernel
theorem zpT66 : zcheck zpZ zpRS zpMT [zpC52, zpC53, zpC56, zpC65] zpC66 zpP9 0 zpA66 [] 3000 = true := by decide +kernel
theorem zpT67 : zcheck zpZ zpRS zpMT [zpC52, zpC53, zpC56, zpC66] zpC67 zpP9 0 zpA67 [] 3000 = true := by decide +kernel
theorem zpT68 : zcheck zpZ zpRS zpMT [zpC52, zpC53, zpC56, zpC67] zpC68 zpP9 0 zpA68 [] 3000 = true := by decide +kernel
theorem zpT69 : zcheck zpZ zpRS zpMT [zpC53, zpC56, zpC68] zpC69 zpP9 0 zpA69 [] 3000 = true := by decide +kernel
theorem zpT70 : zcheck zpZ zpRS zpMT [zpC53, zpC56, zpC69] zpC70 zpP9 0 zpA70 [] 3000 = true := by decide +kernel
theorem zpT71 : zcheck zpZ zpRS zpMT [zpC52, zpC53, zpC55, zpC56, zpC57, zpC58, zpC65, zpC70] zpC71 zpP9 0 zpA71 [] 3000 = true := by decide +kernel
theorem zpT72 : zcheck zpZ zpRS zpMT [zpC52, zpC53, zpC56, zpC71] zpC72 zpP9 0 zpA72 [] 3000 = true := by decide +kernel
theorem zpT73 : zcheck zpZ zpRS zpMT [zpC52, zpC53, zpC56, zpC72] zpC73 zpP9 0 zpA73 [] 3000 = true := by decide +kernel
theorem zpT74 : zcheck zpZ zpRS zpMT [zpC52, zpC53, zpC56, zpC73] zpC74 zpP9 0 zpA74 [] 3000 = true := by decide +kernel
theorem zpT75 : zcheck zpZ zpRS zpMT [zpC53, zpC56, zpC74] zpC75 zpP9 0 zpA75 [] 3000 = true := by decide +kernel
theorem zpT76 : zcheck zpZ zpRS zpMT [zpC53, zpC56, zpC75] zpC76 zpP9 0 zpA76 [] 3000 = true := by decide +kernel
theorem zpT77 : zcheck zpZ zpRS zpMT [zpC52, zpC53, zpC55, zpC56, zpC57, zpC58, zpC71, zpC76] zpC77 zpP9 0 zpA77 [] 3000 = true := by decide +kernel
theorem zpT78 : zcheck zpZ zpRS zpMT [zpC52, zpC53, zpC56, zpC77] zpC78 zpP9 0 zpA78 [] 3000 = true := by decide +kernel
theorem zpT79 : zcheck zpZ zpRS zpMT [zpC52, zpC53, zpC56, zpC78] zpC79 zpP9 0 zpA79 [] 3000 = true := by decide +kernel
theorem zpT80 : zcheck zpZ zpRS zpMT [zpC52, zpC53, zpC56, zpC79] zpC80 zpP9 0 zpA80 [] 3000 = true := by decide +kernel
theorem zpT81 : zcheck zpZ zpRS zpMT [zpC53, zpC56, zpC80] zpC81 zpP9 0 zpA81 [] 3000 = true := by decide +kernel
theorem zpT82 : zcheck zpZ zpRS zpMT [zpC53, zpC56, zpC81] zpC82 zpP9 0 zpA82 [] 3000 = true := by decide +kernel
theorem zpT83 : zcheck zpZ zpRS zpMT [zpC52, zpC53, zpC55, zpC56, zpC57, zpC58, zpC77, zpC82] zpC83 zpP9 0 zpA83 [] 3000 = true := by decide +kernel
theorem zpT84 : zcheck zpZ zpRS zpMT [zpC52, zpC53, zpC56, zpC83] zpC84 zpP9 0 zpA84 [] 3000 = true := by decide +kernel
theorem zpT85 : zcheck zpZ zpRS zpMT [zpC52, zpC53, zpC56, zpC84] zpC85 zpP9 0 zpA85 [] 3000 = true := by decide +kernel
theorem zpT86 : zcheck zpZ zpRS zpMT [zpC52, zpC53, zpC56, zpC85] zpC86 zpP9 0 zpA86 [] 3000 = true := by decide +kernel
theorem zpT87 : zcheck zpZ zpRS zpMT [zpC53, zpC56, zpC86] zpC87 zpP9 0 zpA87 [] 3000 = true := by decide +kernel
theorem zpT88 : zcheck zpZ zpRS zpMT [zpC53, zpC56, zpC87] zpC88 zpP9 0 zpA88 [] 3000 = true := by decide +kernel
theorem zpT89 : zcheck zpZ zpRS zpMT [zpC52, zpC53, zpC55, zpC56, zpC57, zpC58, zpC83, zpC88] zpC89 zpP9 0 zpA89 [] 3000 = true := by decide +kernel
theorem zpT90 : zcheck zpZ zpRS zpMT [zpC52, zpC53, zpC56, zpC89] zpC90 zpP9 0 zpA90 [] 3000 = true := by decide +kernel
theorem zpT91 : zcheck zpZ zpRS zpMT [zpC52, zpC53, zpC56, zpC90] zpC91 zpP9 0 zpA91 [] 3000 = true := by decide +kernel
theorem zpT92 : zcheck zpZ zpRS zpMT [zpC52, zpC53, zpC56, zpC91] zpC92 zpP9 0 zpA92 [] 3000 = true := by decide +kernel
theorem zpT93 : zcheck zpZ zpRS zpMT [zpC53, zpC56, zpC92] zpC93 zpP9 0 zpA93 [] 3000 = true := by decide +kernel
theorem zpT94 : zcheck zpZ zpRS zpMT [zpC53, zpC56, zpC93] zpC94 zpP9 0 zpA94 [] 3000 = true := by decide +kernel
theorem zpT95 : zcheck zpZ zpRS zpMT [zpC52, zpC53, zpC55, zpC56, zpC57, zpC58, zpC89, zpC94] zpC95 zpP9 0 zpA95 [] 3000 = true := by decide +kernel
theorem zpT96 : zcheck zpZ zpRS zpMT [zpC52, zpC53, zpC56, zpC95] zpC96 zpP9 0 zpA96 [] 3000 = true := by decide +kernel
theorem zpT97 : zcheck zpZ zpRS zpMT [zpC52, zpC53, zpC56, zpC96] zpC97 zpP9 0 zpA97 [] 3000 = true := by decide +kernel
theorem zpT98 : zcheck zpZ zpRS zpMT [zpC52, zpC53, zpC56, zpC97] zpC98 zpP9 0 zpA98 [] 3000 = true := by decide +kernel
theorem zpT99 : zcheck zpZ zpRS zpMT [zpC53, zpC56, zpC98] zpC99 zpP9 0 zpA99 [] 3000 = true := by decide +kernel
theorem zpT100 : zcheck zpZ zpRS zpMT [zpC53, zpC56, zpC99] zpC100 zpP9 0 zpA100 [] 3000 = true := by decide +kernel
theorem zpT101 : zcheck zpZ zpRS zpMT [zpC53, zpC56, zpC100] zpC101 zpP9 0 zpA101 [] 3000 = true := by decide +kernel
theorem zpT102 : zcheck zpZ zpRS zpMT [zpC52, zpC53, zpC54, zpC55, zpC101] zpC102 zpP9 1 zpA102 [] 3000 = true := by decide +kernel
theorem zpT103 : zcheck zpZ zpRS zpMT [zpC102] zpC103 zpP6 1 zpA103 [] 3000 = true := by decide +kernel
theorem zpT104 : zcheck zpZ zpRS zpMT [] zpC104 zpP8 0 zpA104 [] 3000 = true := by decide +kernel
theorem zpT105 : zcheck zpZ zpRS zpMT [zpC103, zpC104] zpC105 zpP0 1 zpA105 [] 3000 = true := by decide +kernel
theorem zpT106 : zcheck zpZ zpRS zpMT [zpC10] zpC106 zpP6 2 zpA106 [] 3000 = true := by decide +kernel
theorem zpT107 : zcheck zpZ zpRS zpMT [] zpC107 zpP10 2 zpA107 [] 3000 = true := by decide +kernel
theorem zpT108 : zcheck zpZ zpRS zpMT [] zpC108 zpP10 2 zpA108 [] 3000 = true := by decide +kernel
theorem zpT109 : zcheck zpZ zpRS zpMT [] zpC109 zpP7 2 zpA109 [] 3000 = true := by decide +kernel
theorem zpT110 : zcheck zpZ zpRS zpMT [zpC109] zpC110 zpP7 1 zpA110 [] 3000 = true := by decide +kernel
theorem zpT111 : zcheck zpZ zpRS zpMT [zpC109] zpC111 zpP7 1 zpA111 [] 3000 = true := by decide +kernel
theorem zpT112 : zcheck zpZ zpRS zpMT [zpC6, zpC110, zpC111] zpC112 zpP0 1 zpA112 [] 3000 = true := by decide +kernel
theorem zpT113 : zcheck zpZ zpRS zpMT [zpC107] zpC113 zpP7 2 zpA113 [] 3000 = true := by decide +kernel
theorem zpT114 : zcheck zpZ zpRS zpMT [] zpC114 zpP10 2 zpA114 [] 3000 = true := by decide +kernel
theorem zpT115 : zcheck zpZ zpRS zpMT [zpC113, zpC114] zpC115 zpP7 0 zpA115 [] 3000 = true := by decide +kernel
theorem zpT116 : zcheck zpZ zpRS zpMT [zpC11, zpC25, zpC115] zpC116 zpP7 0 zpA116 [] 3000 = true := by decide +kernel
theorem zpT117 : zcheck zpZ zpRS zpMT [zpC6, zpC16, zpC116] zpC117 zpP0 1 zpA117 [] 3000 = true := by decide +kernel
theorem zpT118 : zcheck zpZ zpRS zpMT [] zpC118 zpP7 0 zpA118 [] 3000 = true := by decide +kernel
theorem zpT119 : zcheck zpZ zpRS zpMT [zpC27] zpC119 zpP7 0 zpA119 [] 3000 = true := by decide +kernel
