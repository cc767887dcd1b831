theorem zpT542 : zcheck zpZ zpRS zpMT [zpC472, zpC541] zpC542 zpP12 1 zpA542 [] 3000 = true := by decide +kernel
theorem zpT543 : zcheck zpZ zpRS zpMT [zpC472] zpC543 zpP12 2 zpA543 [] 3000 = true := by decide +kernel
theorem zpT544 : zcheck zpZ zpRS zpMT [] zpC544 zpP12 2 zpA544 [] 3000 = true := by decide +kernel
theorem zpT545 : zcheck zpZ zpRS zpMT [zpC542, zpC543, zpC544] zpC545 zpP12 1 zpA545 [] 3000 = true := by decide +kernel
theorem zpT546 : zcheck zpZ zpRS zpMT [zpC472] zpC546 zpP12 2 zpA546 [] 3000 = true := by decide +kernel
theorem zpT547 : zcheck zpZ zpRS zpMT [] zpC547 zpP12 2 zpA547 [] 3000 = true := by decide +kernel
theorem zpT548 : zcheck zpZ zpRS zpMT [zpC545, zpC546, zpC547] zpC548 zpP12 1 zpA548 [] 3000 = true := by decide +kernel
theorem zpT549 : zcheck zpZ zpRS zpMT [zpC472] zpC549 zpP12 2 zpA549 [] 3000 = true := by decide +kernel
theorem zpT550 : zcheck zpZ zpRS zpMT [] zpC550 zpP12 2 zpA550 [] 3000 = true := by decide +kernel
theorem zpT551e : zrun zpZ zpRS zpP12 zpMT [zpC470, zpC472, zpC473, zpC538, zpC539, zpC548, zpC549, zpC550] (zpC551.2.2.1.2.1.length, zpC551.2.2.2.1, zpC551.2.2.2.2, zpC551.2.1, 1) (zpMT zpC551.1).2.1 zpA551 [] none 3000 0 zpC551.2.2.1.2 = true := by decide +kernel
theorem zpT551h0 : zhead zpZ zpRS zpMT [zpC470, zpC472, zpC473, zpC538, zpC539, zpC548, zpC549, zpC550] zpC551 zpP12 1 zpA551 [] 3000 zpA551h0 = true := by decide +kernel
theorem zpT551 : zcheck zpZ zpRS zpMT [zpC470, zpC472, zpC473, zpC538, zpC539, zpC548, zpC549, zpC550] zpC551 zpP12 1 zpA551 [] 3000 = true := zcheck_of zpT551e (zall_cons zpT551h0 (zall_nil)) (by decide +kernel)
theorem zpT552 : zcheck zpZ zpRS zpMT [zpC472, zpC551] zpC552 zpP12 1 zpA552 [] 3000 = true := by decide +kernel
theorem zpT553 : zcheck zpZ zpRS zpMT [zpC472, zpC552] zpC553 zpP12 1 zpA553 [] 3000 = true := by decide +kernel
theorem zpT554 : zcheck zpZ zpRS zpMT [zpC472, zpC553] zpC554 zpP12 1 zpA554 [] 3000 = true := by decide +kernel
theorem zpT555 : zcheck zpZ zpRS zpMT [zpC543, zpC544, zpC554] zpC555 zpP12 1 zpA555 [] 3000 = true := by decide +kernel
theorem zpT556 : zcheck zpZ zpRS zpMT [zpC546, zpC547, zpC555] zpC556 zpP12 1 zpA556 [] 3000 = true := by decide +kernel
theorem zpT557e : zrun zpZ zpRS zpP12 zpMT [zpC470, zpC472, zpC473, zpC538, zpC549, zpC550, zpC551, zpC556] (zpC557.2.2.1.2.1.length, zpC557.2.2.2.1, zpC557.2.2.2.2, zpC557.2.1, 1) (zpMT zpC557.1).2.1 zpA557 [] none 3000 0 zpC557.2.2.1.2 = true := by decide +kernel
theorem zpT557h0 : zhead zpZ zpRS zpMT [zpC470, zpC472, zpC473, zpC538, zpC549, zpC550, zpC551, zpC556] zpC557 zpP12 1 zpA557 [] 3000 zpA557h0 = true := by decide +kernel
theorem zpT557 : zcheck zpZ zpRS zpMT [zpC470, zpC472, zpC473, zpC538, zpC549, zpC550, zpC551, zpC556] zpC557 zpP12 1 zpA557 [] 3000 = true := zcheck_of zpT557e (zall_cons zpT557h0 (zall_nil)) (by decide +kernel)
theorem zpT558 : zcheck zpZ zpRS zpMT [zpC472, zpC557] zpC558 zpP12 1 zpA558 [] 3000 = true := by decide +kernel
theorem zpT559 : zcheck zpZ zpRS zpMT [zpC472, zpC558] zpC559 zpP12 1 zpA559 [] 3000 = true := by decide +kernel
theorem zpT560 : zcheck zpZ zpRS zpMT [zpC472, zpC559] zpC560 zpP12 1 zpA560 [] 3000 = true := by decide +kernel
theorem zpT561 : zcheck zpZ zpRS zpMT [zpC543, zpC544, zpC560] zpC561 zpP12 1 zpA561 [] 3000 = true := by decide +kernel
theorem zpT562 : zcheck zpZ zpRS zpMT [zpC546, zpC547, zpC561] zpC562 zpP12 1 zpA562 [] 3000 = true := by decide +kernel
theorem zpT563e : zrun zpZ zpRS zpP12 zpMT [zpC470, zpC472, zpC473, zpC538, zpC549, zpC550, zpC557, zpC562] (zpC563.2.2.1.2.1.length, zpC563.2.2.2.1, zpC563.2.2.2.2, zpC563.2.1, 1) (zpMT zpC563.1).2.1 zpA563 [] none 3000 0 zpC563.2.2.1.2 = true := by decide +kernel
theorem zpT563h0 : zhead zpZ zpRS zpMT [zpC470, zpC472, zpC473, zpC538, zpC549, zpC550, zpC557, zpC562] zpC563 zpP12 1 zpA563 [] 3000 zpA563h0 = true := by decide +kernel
theorem zpT563 : zcheck zpZ zpRS zpMT [zpC470, zpC472, zpC473, zpC538, zpC549, zpC550, zpC557, zpC562] zpC563 zpP12 1 zpA563 [] 3000 = true := zcheck_of zpT563e (zall_cons zpT563h0 (zall_nil)) (by decide +kernel)
theorem zpT564 : zcheck zpZ zpRS zpMT [zpC472, zpC563] zpC564 zpP12 1 zpA564 [] 3000 = true := by decide +kernel
theorem zpT565 : zcheck zpZ zpRS zpMT [zpC472, zpC564] zpC565 zpP12 1 zpA565 [] 3000 = true := by decide +kernel
