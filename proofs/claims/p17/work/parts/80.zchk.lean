theorem zpT566 : zcheck zpZ zpRS zpMT [zpC472, zpC565] zpC566 zpP12 1 zpA566 [] 3000 = true := by decide +kernel
theorem zpT567 : zcheck zpZ zpRS zpMT [zpC543, zpC544, zpC566] zpC567 zpP12 1 zpA567 [] 3000 = true := by decide +kernel
theorem zpT568 : zcheck zpZ zpRS zpMT [zpC546, zpC547, zpC567] zpC568 zpP12 1 zpA568 [] 3000 = true := by decide +kernel
theorem zpT569e : zrun zpZ zpRS zpP12 zpMT [zpC470, zpC472, zpC473, zpC538, zpC549, zpC550, zpC563, zpC568] (zpC569.2.2.1.2.1.length, zpC569.2.2.2.1, zpC569.2.2.2.2, zpC569.2.1, 1) (zpMT zpC569.1).2.1 zpA569 [] none 3000 0 zpC569.2.2.1.2 = true := by decide +kernel
theorem zpT569h0 : zhead zpZ zpRS zpMT [zpC470, zpC472, zpC473, zpC538, zpC549, zpC550, zpC563, zpC568] zpC569 zpP12 1 zpA569 [] 3000 zpA569h0 = true := by decide +kernel
theorem zpT569 : zcheck zpZ zpRS zpMT [zpC470, zpC472, zpC473, zpC538, zpC549, zpC550, zpC563, zpC568] zpC569 zpP12 1 zpA569 [] 3000 = true := zcheck_of zpT569e (zall_cons zpT569h0 (zall_nil)) (by decide +kernel)
theorem zpT570 : zcheck zpZ zpRS zpMT [zpC472, zpC569] zpC570 zpP12 1 zpA570 [] 3000 = true := by decide +kernel
theorem zpT571 : zcheck zpZ zpRS zpMT [zpC472, zpC570] zpC571 zpP12 1 zpA571 [] 3000 = true := by decide +kernel
theorem zpT572 : zcheck zpZ zpRS zpMT [zpC472, zpC571] zpC572 zpP12 1 zpA572 [] 3000 = true := by decide +kernel
theorem zpT573 : zcheck zpZ zpRS zpMT [zpC543, zpC544, zpC572] zpC573 zpP12 1 zpA573 [] 3000 = true := by decide +kernel
theorem zpT574 : zcheck zpZ zpRS zpMT [zpC546, zpC547, zpC573] zpC574 zpP12 1 zpA574 [] 3000 = true := by decide +kernel
theorem zpT575e : zrun zpZ zpRS zpP12 zpMT [zpC470, zpC472, zpC473, zpC538, zpC549, zpC550, zpC569, zpC574] (zpC575.2.2.1.2.1.length, zpC575.2.2.2.1, zpC575.2.2.2.2, zpC575.2.1, 1) (zpMT zpC575.1).2.1 zpA575 [] none 3000 0 zpC575.2.2.1.2 = true := by decide +kernel
theorem zpT575h0 : zhead zpZ zpRS zpMT [zpC470, zpC472, zpC473, zpC538, zpC549, zpC550, zpC569, zpC574] zpC575 zpP12 1 zpA575 [] 3000 zpA575h0 = true := by decide +kernel
theorem zpT575 : zcheck zpZ zpRS zpMT [zpC470, zpC472, zpC473, zpC538, zpC549, zpC550, zpC569, zpC574] zpC575 zpP12 1 zpA575 [] 3000 = true := zcheck_of zpT575e (zall_cons zpT575h0 (zall_nil)) (by decide +kernel)
theorem zpT576 : zcheck zpZ zpRS zpMT [zpC472, zpC575] zpC576 zpP12 1 zpA576 [] 3000 = true := by decide +kernel
theorem zpT577 : zcheck zpZ zpRS zpMT [zpC472, zpC576] zpC577 zpP12 1 zpA577 [] 3000 = true := by decide +kernel
theorem zpT578 : zcheck zpZ zpRS zpMT [zpC472, zpC577] zpC578 zpP12 1 zpA578 [] 3000 = true := by decide +kernel
theorem zpT579 : zcheck zpZ zpRS zpMT [zpC543, zpC544, zpC578] zpC579 zpP12 1 zpA579 [] 3000 = true := by decide +kernel
theorem zpT580 : zcheck zpZ zpRS zpMT [zpC546, zpC547, zpC579] zpC580 zpP12 1 zpA580 [] 3000 = true := by decide +kernel
theorem zpT581e : zrun zpZ zpRS zpP12 zpMT [zpC470, zpC472, zpC473, zpC538, zpC549, zpC550, zpC575, zpC580] (zpC581.2.2.1.2.1.length, zpC581.2.2.2.1, zpC581.2.2.2.2, zpC581.2.1, 1) (zpMT zpC581.1).2.1 zpA581 [] none 3000 0 zpC581.2.2.1.2 = true := by decide +kernel
theorem zpT581h0 : zhead zpZ zpRS zpMT [zpC470, zpC472, zpC473, zpC538, zpC549, zpC550, zpC575, zpC580] zpC581 zpP12 1 zpA581 [] 3000 zpA581h0 = true := by decide +kernel
theorem zpT581 : zcheck zpZ zpRS zpMT [zpC470, zpC472, zpC473, zpC538, zpC549, zpC550, zpC575, zpC580] zpC581 zpP12 1 zpA581 [] 3000 = true := zcheck_of zpT581e (zall_cons zpT581h0 (zall_nil)) (by decide +kernel)
theorem zpT582 : zcheck zpZ zpRS zpMT [zpC472, zpC581] zpC582 zpP12 1 zpA582 [] 3000 = true := by decide +kernel
theorem zpT583 : zcheck zpZ zpRS zpMT [zpC472, zpC582] zpC583 zpP12 1 zpA583 [] 3000 = true := by decide +kernel
theorem zpT584 : zcheck zpZ zpRS zpMT [zpC472, zpC583] zpC584 zpP12 1 zpA584 [] 3000 = true := by decide +kernel
